set_option maxRecDepth 100000 in
set_option maxHeartbeats 4000000 in
theorem s_X2_setMetre (X : AX) (p : Int) (v : Int) (u : Int) (μ : Mu) (hp : p = 20 ∨ p = 31) (hv : 1 ≤ v ∧ v ≤ 12) (hu : u = 2 ∨ u = 4 ∨ u = 8) : Wp (GG X) M_X2_setMetre 0 [(2, p), (0, v), (0, u), (9, 0), (9, 0)] [] μ (qV fun μ' => (Fr p (p + 1) 1 0 μ' μ) ∧ (μ' p 1 = v) ∧ (μ' p 2 = u) ∧ (μ' p 4 * evn μ' p = v ∧ ∀ k : Int, 0 ≤ k → k < μ' p 4 → μ' (p + 1) k = evn μ' p) ∧ (∀ k : Int, (¬ k = 1 ∧ ¬ k = 2 ∧ ¬ k = 4) → μ' p k = μ p k)) := by
  refine w_aload_n dX2_setMetre_0 rfl rfl (by first | decide | omega) ?_
  refine w_iload_n dX2_setMetre_1 rfl rfl ?_
  refine w_bipush dX2_setMetre_2 (by decide) ?_
  refine w_min fX2_setMetre_4 (R32.in (by omega)) (R32.in (by decide)) (Nat.le_of_ble_eq_true rfl) ?_
  refine w_putI (o := (p).toNat) (f := 1) fX2_setMetre_7 (by omega) (pSh0 rfl rfl (by assumption)) rfl rfl rfl ?_
  refine w_aload_n dX2_setMetre_10 rfl rfl (by first | decide | omega) ?_
  refine w_iload_n dX2_setMetre_11 rfl rfl ?_
  refine w_putI (o := (p).toNat) (f := 2) fX2_setMetre_12 (by omega) (pSh0 rfl rfl (by assumption)) rfl rfl rfl ?_
  refine w_iload_n dX2_setMetre_15 rfl rfl ?_
  refine w_bipush dX2_setMetre_16 (by decide) ?_
  have hJ18_1 : ∀ z1_0 : Int, z1_0 = (if ¬ u = 8 then 1 else (if ¬ (v % 3) = 0 then 1 else 3)) → Wp (GG X) M_X2_setMetre 32 [(2, p), (0, v), (0, u), (9, 0), (9, 0)] [(0, z1_0)] (am_up (am_up μ p 1 (min v 12)) p 2 u) (qV fun μ' => (Fr p (p + 1) 1 0 μ' μ) ∧ (μ' p 1 = v) ∧ (μ' p 2 = u) ∧ (μ' p 4 * evn μ' p = v ∧ ∀ k : Int, 0 ≤ k → k < μ' p 4 → μ' (p + 1) k = evn μ' p) ∧ (∀ k : Int, (¬ k = 1 ∧ ¬ k = 2 ∧ ¬ k = 4) → μ' p k = μ p k)) := by
    intro z1_0 hz1_0
    have hz9 : z1_0 = if u = 8 ∧ v % 3 = 0 then 3 else 1 := by omega
    have hz13 : z1_0 = 1 ∨ z1_0 = 3 := by omega
    refine w_istore_n (ls' := [(2, p), (0, v), (0, u), (0, z1_0), (9, 0)]) dX2_setMetre_32 rfl (Nat.le_of_ble_eq_true rfl) rfl rfl ?_
    refine w_aload_n dX2_setMetre_33 rfl rfl (by first | decide | omega) ?_
    refine w_iconst dX2_setMetre_34 ?_
    refine w_putI (o := (p).toNat) (f := 4) fX2_setMetre_35 (by omega) (pSh0 rfl rfl (by assumption)) rfl rfl rfl ?_
    refine w_iconst dX2_setMetre_38 ?_
    refine w_istore (ls' := [(2, p), (0, v), (0, u), (0, z1_0), (0, 0)]) dX2_setMetre_39 (Nat.le_of_ble_eq_true rfl) rfl rfl ?_
    have hL41 : ∀ (n41 : Nat) (k : Int) (t : Int) (μ1 : Mu), (v - t).toNat = n41 → Fr p (p + 1) 1 0 μ1 μ → ((z1_0 = 1 ∧ t = k) ∨ (z1_0 = 3 ∧ t = 3 * k)) → (0 ≤ k ∧ 0 ≤ t ∧ t ≤ v) → (μ1 p 1 = v) → (μ1 p 2 = u) → (μ1 p 4 = k) → (∀ j : Int, 0 ≤ j → j < k → μ1 (p + 1) j = z1_0) → (∀ k : Int, (¬ k = 1 ∧ ¬ k = 2 ∧ ¬ k = 4) → μ1 p k = μ p k) → Wp (GG X) M_X2_setMetre 41 [(2, p), (0, v), (0, u), (0, z1_0), (0, t)] [] μ1 (qV fun μ' => (Fr p (p + 1) 1 0 μ' μ) ∧ (μ' p 1 = v) ∧ (μ' p 2 = u) ∧ (μ' p 4 * evn μ' p = v ∧ ∀ k : Int, 0 ≤ k → k < μ' p 4 → μ' (p + 1) k = evn μ' p) ∧ (∀ k : Int, (¬ k = 1 ∧ ¬ k = 2 ∧ ¬ k = 4) → μ' p k = μ p k)) := by
      intro n41
      induction n41 using Nat.strongRecOn with
      | ind n41 ih41 =>
        intro k t μ1 hn41 hF41 hk hk0 h11 h12 h14 hrow hfA
        refine w_iload dX2_setMetre_41 rfl ?_
        refine w_aload_n dX2_setMetre_43 rfl rfl (by first | decide | omega) ?_
        refine w_getIx (o := (p).toNat) (f := 1) (x := v) fX2_setMetre_44 (by omega) (pSh0 rfl rfl (by assumption)) (Nat.le_of_ble_eq_true rfl) rfl h11 ?_
        refine w_icmp_ge (tgt := 79) dX2_setMetre_47 rfl (R32.in (by omega)) (R32.in (by omega)) (fun c47 => ?_) (fun c47 => ?_)
        · skip
          exact w_retV dX2_setMetre_79 rfl ⟨hF41, (h11.trans (by omega)), (h12.trans (by rfl)), (by have he9 : evn μ1 p = z1_0 := (by unfold evn; rw [h11, h12]; omega); rw [he9, h14]; exact ⟨by rcases hk with q | q <;> rw [q.1] <;> omega, hrow⟩), (fun k h1 => (hfA k (by omega)))⟩
        · skip
          refine w_aload_n dX2_setMetre_50 rfl rfl (by first | decide | omega) ?_
          refine w_getR (o := (p).toNat) (x := p + 1) fX2_setMetre_51 (by omega) (pSh0 rfl rfl (by assumption)) rfl (pRf 5 1 rfl rfl (by assumption)) ?_
          refine w_aload_n dX2_setMetre_54 rfl rfl (by first | decide | omega) ?_
          refine w_getIx (o := (p).toNat) (f := 4) (x := k) fX2_setMetre_55 (by omega) (pSh0 rfl rfl (by assumption)) (Nat.le_of_ble_eq_true rfl) rfl h14 ?_
          refine w_iload_n dX2_setMetre_58 rfl rfl ?_
          refine w_iast (o := (p + 1).toNat) (n := 12) dX2_setMetre_59 (by omega) (pSh 1 rfl rfl (by assumption)) (Nat.le_of_ble_eq_true rfl) (by omega) (by omega) ?_
          refine w_aload_n dX2_setMetre_60 rfl rfl (by first | decide | omega) ?_
          refine w_dup dX2_setMetre_61 (by simp) ?_
          refine w_getIx (o := (p).toNat) (f := 4) (x := k) fX2_setMetre_62 (by omega) (pSh0 rfl rfl (by assumption)) (Nat.le_of_ble_eq_true rfl) rfl ((congrFun (am_up_o (by first | decide | omega)) _).trans h14) ?_
          refine w_iconst dX2_setMetre_65 ?_
          refine w_iadd dX2_setMetre_66 ?_
          refine w_putI (o := (p).toNat) (f := 4) fX2_setMetre_67 (by omega) (pSh0 rfl rfl (by assumption)) rfl rfl rfl ?_
          refine w_iload dX2_setMetre_70 rfl ?_
          refine w_iload_n dX2_setMetre_72 rfl rfl ?_
          refine w_iadd dX2_setMetre_73 ?_
          refine w_istore (ls' := [(2, p), (0, v), (0, u), (0, z1_0), (0, t + z1_0)]) dX2_setMetre_74 (Nat.le_of_ble_eq_true rfl) rfl rfl ?_
          refine w_goto (tgt := 41) dX2_setMetre_76 rfl ?_
          exact ih41 _ (by omega) (k + 1) (t + z1_0) (am_up (am_up μ1 (p + 1) k z1_0) p 4 (k + 1)) rfl ((hF41.up (by omega)).up (by omega)) (by omega) (by first | omega | assumption) (((am_up_nk (by omega)).trans ((congrFun (am_up_o (by first | decide | omega)) _).trans h11)).trans (by omega)) (((am_up_nk (by omega)).trans ((congrFun (am_up_o (by first | decide | omega)) _).trans h12)).trans (by first | rfl | exact h12)) (am_up_at.trans (by omega)) (fun j h1 h2 => ((congrFun (am_up_o (by omega)) _).trans ((fillr (f := fun _ => z1_0) hrow rfl) j h1 h2))) (fun k h1 => ((am_up_nk (by omega)).trans ((congrFun (am_up_o (by omega)) _).trans (hfA k (by omega)))))
    exact hL41 _ 0 0 (am_up (am_up (am_up μ p 1 (min v 12)) p 2 u) p 4 0) rfl (((Fr.rf.up (by omega)).up (by omega)).up (by omega)) (by omega) (by first | omega | assumption) (((am_up_nk (by omega)).trans ((am_up_nk (by omega)).trans am_up_at)).trans (by omega)) (((am_up_nk (by omega)).trans am_up_at).trans (by first | rfl | exact h12)) (am_up_at.trans (by omega)) (fun j h1 h2 => by omega) (fun k h1 => ((am_up_nk (by omega)).trans ((am_up_nk (by omega)).trans (am_up_nk (by omega)))))
  refine w_icmp_ne (tgt := 31) dX2_setMetre_18 rfl (R32.in (by omega)) (R32.in (by decide)) (fun c18 => ?_) (fun c18 => ?_)
  · skip
    refine w_iconst dX2_setMetre_31 ?_
    exact hJ18_1 _ (by first | omega | simp [*])
  · skip
    refine w_iload_n dX2_setMetre_21 rfl rfl ?_
    refine w_iconst dX2_setMetre_22 ?_
    refine w_iremP dX2_setMetre_23 (by omega) ?_
    refine w_if_ne (tgt := 31) dX2_setMetre_24 rfl (R32.in (by omega)) (fun c24 => ?_) (fun c24 => ?_)
    · skip
      refine w_iconst dX2_setMetre_31 ?_
      exact hJ18_1 _ (by first | omega | simp [*])
    · skip
      refine w_iconst dX2_setMetre_27 ?_
      refine w_goto (tgt := 32) dX2_setMetre_28 rfl ?_
      exact hJ18_1 _ (by first | omega | simp [*])

set_option maxRecDepth 100000 in
set_option maxHeartbeats 4000000 in
theorem s_X2_clear (X : AX) (p : Int) (μ : Mu) (hp : p = 20 ∨ p = 31) : Wp (GG X) M_X2_clear 0 [(2, p)] [] μ (qV fun μ' => (Fr p (p + 2) 1 0 μ' μ) ∧ (CPS S0 p μ') ∧ (μ' p 14 = 0)) := by
  refine w_aload_n dX2_clear_0 rfl rfl (by first | decide | omega) ?_
  refine w_iconst dX2_clear_1 ?_
  refine w_putI (o := (p).toNat) (f := 0) fX2_clear_2 (by omega) (pSh0 rfl rfl (by assumption)) rfl rfl rfl ?_
  refine w_aload_n dX2_clear_5 rfl rfl (by first | decide | omega) ?_
  refine w_iconst dX2_clear_6 ?_
  refine w_putI (o := (p).toNat) (f := 7) fX2_clear_7 (by omega) (pSh0 rfl rfl (by assumption)) rfl rfl rfl ?_
  refine w_aload_n dX2_clear_10 rfl rfl (by first | decide | omega) ?_
  refine w_iconst dX2_clear_11 ?_
  refine w_putI (o := (p).toNat) (f := 14) fX2_clear_12 (by omega) (pSh0 rfl rfl (by assumption)) rfl rfl rfl ?_
  refine w_aload_n dX2_clear_15 rfl rfl (by first | decide | omega) ?_
  refine w_bipush dX2_clear_16 (by decide) ?_
  refine w_putI (o := (p).toNat) (f := 3) fX2_clear_18 (by omega) (pSh0 rfl rfl (by assumption)) rfl rfl rfl ?_
  refine w_aload_n dX2_clear_21 rfl rfl (by first | decide | omega) ?_
  refine w_getR (o := (p).toNat) (x := p + 2) fX2_clear_22 (by omega) (pSh0 rfl rfl (by assumption)) rfl (pRf 6 2 rfl rfl (by assumption)) ?_
  refine w_iconst dX2_clear_25 ?_
  refine w_bipush dX2_clear_26 (by decide) ?_
  refine w_iast (o := (p + 2).toNat) (n := 4) dX2_clear_28 (by omega) (pSh 2 rfl rfl (by assumption)) (Nat.le_of_ble_eq_true rfl) (by omega) (by omega) ?_
  refine w_aload_n dX2_clear_29 rfl rfl (by first | decide | omega) ?_
  refine w_getR (o := (p).toNat) (x := p + 2) fX2_clear_30 (by omega) (pSh0 rfl rfl (by assumption)) rfl (pRf 6 2 rfl rfl (by assumption)) ?_
  refine w_iconst dX2_clear_33 ?_
  refine w_bipush dX2_clear_34 (by decide) ?_
  refine w_iast (o := (p + 2).toNat) (n := 4) dX2_clear_36 (by omega) (pSh 2 rfl rfl (by assumption)) (Nat.le_of_ble_eq_true rfl) (by omega) (by omega) ?_
  refine w_aload_n dX2_clear_37 rfl rfl (by first | decide | omega) ?_
  refine w_getR (o := (p).toNat) (x := p + 2) fX2_clear_38 (by omega) (pSh0 rfl rfl (by assumption)) rfl (pRf 6 2 rfl rfl (by assumption)) ?_
  refine w_iconst dX2_clear_41 ?_
  refine w_bipush dX2_clear_42 (by decide) ?_
  refine w_iast (o := (p + 2).toNat) (n := 4) dX2_clear_44 (by omega) (pSh 2 rfl rfl (by assumption)) (Nat.le_of_ble_eq_true rfl) (by omega) (by omega) ?_
  refine w_aload_n dX2_clear_45 rfl rfl (by first | decide | omega) ?_
  refine w_getR (o := (p).toNat) (x := p + 2) fX2_clear_46 (by omega) (pSh0 rfl rfl (by assumption)) rfl (pRf 6 2 rfl rfl (by assumption)) ?_
  refine w_iconst dX2_clear_49 ?_
  refine w_bipush dX2_clear_50 (by decide) ?_
  refine w_iast (o := (p + 2).toNat) (n := 4) dX2_clear_52 (by omega) (pSh 2 rfl rfl (by assumption)) (Nat.le_of_ble_eq_true rfl) (by omega) (by omega) ?_
  have hF_μ5 : Fr p (p + 2) 1 0 (am_up (am_up (am_up (am_up (am_up (am_up (am_up (am_up μ p 0 0) p 7 0) p 14 0) p 3 9) (p + 2) 0 24) (p + 2) 1 16) (p + 2) 2 12) (p + 2) 3 9) μ := ((((((((Fr.rf.up (by omega)).up (by omega)).up (by omega)).up (by omega)).up (by omega)).up (by omega)).up (by omega)).up (by omega))
  have h57 : (am_up (am_up (am_up (am_up (am_up (am_up (am_up (am_up μ p 0 0) p 7 0) p 14 0) p 3 9) (p + 2) 0 24) (p + 2) 1 16) (p + 2) 2 12) (p + 2) 3 9) p 7 = 0 := (((congrFun (am_up_o (by first | decide | omega)) _).trans ((congrFun (am_up_o (by first | decide | omega)) _).trans ((congrFun (am_up_o (by first | decide | omega)) _).trans ((congrFun (am_up_o (by first | decide | omega)) _).trans ((am_up_nk (by omega)).trans ((am_up_nk (by omega)).trans am_up_at)))))).trans (by rfl))
  have h50 : (am_up (am_up (am_up (am_up (am_up (am_up (am_up (am_up μ p 0 0) p 7 0) p 14 0) p 3 9) (p + 2) 0 24) (p + 2) 1 16) (p + 2) 2 12) (p + 2) 3 9) p 0 = 0 := (((congrFun (am_up_o (by first | decide | omega)) _).trans ((congrFun (am_up_o (by first | decide | omega)) _).trans ((congrFun (am_up_o (by first | decide | omega)) _).trans ((congrFun (am_up_o (by first | decide | omega)) _).trans ((am_up_nk (by omega)).trans ((am_up_nk (by omega)).trans ((am_up_nk (by omega)).trans am_up_at))))))).trans (by rfl))
  have h53 : (am_up (am_up (am_up (am_up (am_up (am_up (am_up (am_up μ p 0 0) p 7 0) p 14 0) p 3 9) (p + 2) 0 24) (p + 2) 1 16) (p + 2) 2 12) (p + 2) 3 9) p 3 = 9 := (((congrFun (am_up_o (by first | decide | omega)) _).trans ((congrFun (am_up_o (by first | decide | omega)) _).trans ((congrFun (am_up_o (by first | decide | omega)) _).trans ((congrFun (am_up_o (by first | decide | omega)) _).trans am_up_at)))).trans (by rfl))
  have h514 : (am_up (am_up (am_up (am_up (am_up (am_up (am_up (am_up μ p 0 0) p 7 0) p 14 0) p 3 9) (p + 2) 0 24) (p + 2) 1 16) (p + 2) 2 12) (p + 2) 3 9) p 14 = 0 := (((congrFun (am_up_o (by first | decide | omega)) _).trans ((congrFun (am_up_o (by first | decide | omega)) _).trans ((congrFun (am_up_o (by first | decide | omega)) _).trans ((congrFun (am_up_o (by first | decide | omega)) _).trans ((am_up_nk (by omega)).trans am_up_at))))).trans (by rfl))
  have h5w : ∀ k : Int, 0 ≤ k → k < 4 → (am_up (am_up (am_up (am_up (am_up (am_up (am_up (am_up μ p 0 0) p 7 0) p 14 0) p 3 9) (p + 2) 0 24) (p + 2) 1 16) (p + 2) 2 12) (p + 2) 3 9) (p + 2) k = if k = 0 then 24 else if k = 1 then 16 else if k = 2 then 12 else 9 := (fun k h1 h2 => by rw [up_if, up_if, up_if, up_if]; omega)
  refine Wp.mu (fun μ5 hμ5 => ?_)
  rw [← hμ5] at hF_μ5 h57 h50 h53 h514 h5w
  clear hμ5
  refine w_aload_n dX2_clear_53 rfl rfl (by first | decide | omega) ?_
  refine w_iconst dX2_clear_54 ?_
  refine w_iconst dX2_clear_55 ?_
  refine w_callVV (o := (p).toNat) (ci := 2) (as := [(0, 4), (0, 4)]) (rest := []) (k := 2) fX2_clear_56 rfl (by omega) (pSh0 rfl rfl (by assumption)) rfl rfl rfl rfl rfl (Nat.le_of_ble_eq_true rfl) (s_X2_setMetre X p 4 4 μ5 (by first | omega | assumption) (by first | omega | assumption) (by first | omega | assumption)) (fun μM hμM => ?_)
  obtain ⟨hFM, h1_M, h2_M, hp4_M, hf_M⟩ := hμM
  exact w_retV dX2_clear_59 rfl ⟨((hFM.wd (by omega) (by omega)).tr hF_μ5), (by exact ⟨SOK_0, ⟨(hf_M 7 (by omega)).trans h57, (hf_M 0 (by omega)).trans h50, h1_M, h2_M, (hf_M 3 (by omega)).trans h53⟩, fun j h1 h2 => by change j < 0 at h2; omega, fun k h1 h2 => (congrFun (hFM.at (by omega) (by omega)) k).trans (h5w k h1 h2), Or.inl ⟨rfl, by rw [h1_M]; exact hp4_M.1, hp4_M.2⟩⟩), (((hf_M _ (by omega)).trans h514).trans (by rfl))⟩

set_option maxRecDepth 100000 in
set_option maxHeartbeats 4000000 in
theorem s_X2_add (X : AX) (σ : Mu) (p : Int) (so : Int) (kd : Int) (hd : Int) (μ : Mu) (hC : CPS σ p μ) (hp : p = 20 ∨ p = 31) (h64 : σ 0 0 < 64) (hk : (kd = 4 ∨ kd = 8 ∨ kd = 16 ∨ kd = 32)) (hs : so = 0 ∨ so = 1) (hh : -12 ≤ hd ∧ hd ≤ 12) : Wp (GG X) M_X2_add 0 [(2, p), (0, so), (0, kd), (0, hd), (9, 0), (9, 0)] [] μ (qV fun μ' => (Fr p (p + 8) 1 0 μ' μ) ∧ (CPS (addS σ so kd hd) p μ')) := by
  have hI := hC.pi hp
  have htx := hC.ok.tx
  refine w_aload_n dX2_add_0 rfl rfl (by first | decide | omega) ?_
  refine w_getIx (o := (p).toNat) (f := 7) (x := σ 0 0) fX2_add_1 (by omega) (pSh0 rfl rfl (by assumption)) (Nat.le_of_ble_eq_true rfl) rfl hC.f7 ?_
  have hr1 := hC.ok.1.1
  have hr2 := PI.sz hI
  refine w_bipush dX2_add_4 (by decide) ?_
  refine w_icmp_lt (tgt := 10) dX2_add_6 rfl (R32.in (by omega)) (R32.in (by decide)) (fun c6 => ?_) (fun c6 => ?_)
  · skip
    refine w_aload_n dX2_add_10 rfl rfl (by first | decide | omega) ?_
    refine w_callVP (o := (p).toNat) (ci := 2) (as := []) (rest := []) (k := 0) fX2_add_11 rfl (by omega) (pSh0 rfl rfl (by assumption)) rfl rfl rfl rfl rfl (Nat.le_of_ble_eq_true rfl) (s_X2_timeOfNext X p μ μ (fun o h1 => rfl) hI) ?_
    have hf3 := tnx_r μ p hI
    refine Wp.topE (b := tS σ) hC.tn ?_
    refine w_istore (ls' := [(2, p), (0, so), (0, kd), (0, hd), (0, tS σ), (9, 0)]) dX2_add_14 (Nat.le_of_ble_eq_true rfl) rfl rfl ?_
    refine w_aload_n dX2_add_16 rfl rfl (by first | decide | omega) ?_
    refine w_callVP (o := (p).toNat) (ci := 2) (as := []) (rest := []) (k := 0) fX2_add_17 rfl (by omega) (pSh0 rfl rfl (by assumption)) rfl rfl rfl rfl rfl (Nat.le_of_ble_eq_true rfl) (s_X2_xOfNext X p μ μ (fun o h1 => rfl) hI) ?_
    have hf4 := xnx_r μ p hI
    refine Wp.topE (b := xS σ) hC.xn ?_
    refine w_istore (ls' := [(2, p), (0, so), (0, kd), (0, hd), (0, tS σ), (0, xS σ)]) dX2_add_20 (Nat.le_of_ble_eq_true rfl) rfl rfl ?_
    refine w_aload_n dX2_add_22 rfl rfl (by first | decide | omega) ?_
    refine w_getR (o := (p).toNat) (x := p + 3) fX2_add_23 (by omega) (pSh0 rfl rfl (by assumption)) rfl (pRf 8 3 rfl rfl (by assumption)) ?_
    refine w_aload_n dX2_add_26 rfl rfl (by first | decide | omega) ?_
    refine w_getIx (o := (p).toNat) (f := 7) (x := σ 0 0) fX2_add_27 (by omega) (pSh0 rfl rfl (by assumption)) (Nat.le_of_ble_eq_true rfl) rfl hC.f7 ?_
    refine w_iload_n dX2_add_30 rfl rfl ?_
    refine w_iast (o := (p + 3).toNat) (n := 64) dX2_add_31 (by omega) (pSh 3 rfl rfl (by assumption)) (Nat.le_of_ble_eq_true rfl) (by omega) (by omega) ?_
    refine w_aload_n dX2_add_32 rfl rfl (by first | decide | omega) ?_
    refine w_getR (o := (p).toNat) (x := p + 4) fX2_add_33 (by omega) (pSh0 rfl rfl (by assumption)) rfl (pRf 9 4 rfl rfl (by assumption)) ?_
    refine w_aload_n dX2_add_36 rfl rfl (by first | decide | omega) ?_
    refine w_getIx (o := (p).toNat) (f := 7) (x := σ 0 0) fX2_add_37 (by omega) (pSh0 rfl rfl (by assumption)) (Nat.le_of_ble_eq_true rfl) rfl ((congrFun (am_up_o (by first | decide | omega)) _).trans hC.f7) ?_
    refine w_iload_n dX2_add_40 rfl rfl ?_
    refine w_zast (o := (p + 4).toNat) (n := 64) dX2_add_41 (by omega) (pSh 4 rfl rfl (by assumption)) (Nat.le_of_ble_eq_true rfl) (by omega) (by omega) (by omega) ?_
    refine w_aload_n dX2_add_42 rfl rfl (by first | decide | omega) ?_
    refine w_getR (o := (p).toNat) (x := p + 5) fX2_add_43 (by omega) (pSh0 rfl rfl (by assumption)) rfl (pRf 10 5 rfl rfl (by assumption)) ?_
    refine w_aload_n dX2_add_46 rfl rfl (by first | decide | omega) ?_
    refine w_getIx (o := (p).toNat) (f := 7) (x := σ 0 0) fX2_add_47 (by omega) (pSh0 rfl rfl (by assumption)) (Nat.le_of_ble_eq_true rfl) rfl ((congrFun (am_up_o (by first | decide | omega)) _).trans ((congrFun (am_up_o (by first | decide | omega)) _).trans hC.f7)) ?_
    refine w_iload_n dX2_add_50 rfl rfl ?_
    refine w_iast (o := (p + 5).toNat) (n := 64) dX2_add_51 (by omega) (pSh 5 rfl rfl (by assumption)) (Nat.le_of_ble_eq_true rfl) (by omega) (by omega) ?_
    refine w_aload_n dX2_add_52 rfl rfl (by first | decide | omega) ?_
    refine w_getR (o := (p).toNat) (x := p + 6) fX2_add_53 (by omega) (pSh0 rfl rfl (by assumption)) rfl (pRf 11 6 rfl rfl (by assumption)) ?_
    refine w_aload_n dX2_add_56 rfl rfl (by first | decide | omega) ?_
    refine w_getIx (o := (p).toNat) (f := 7) (x := σ 0 0) fX2_add_57 (by omega) (pSh0 rfl rfl (by assumption)) (Nat.le_of_ble_eq_true rfl) rfl ((congrFun (am_up_o (by first | decide | omega)) _).trans ((congrFun (am_up_o (by first | decide | omega)) _).trans ((congrFun (am_up_o (by first | decide | omega)) _).trans hC.f7))) ?_
    refine w_iload dX2_add_60 rfl ?_
    refine w_iast (o := (p + 6).toNat) (n := 64) dX2_add_62 (by omega) (pSh 6 rfl rfl (by assumption)) (Nat.le_of_ble_eq_true rfl) (by omega) (by omega) ?_
    refine w_aload_n dX2_add_63 rfl rfl (by first | decide | omega) ?_
    refine w_getR (o := (p).toNat) (x := p + 7) fX2_add_64 (by omega) (pSh0 rfl rfl (by assumption)) rfl (pRf 12 7 rfl rfl (by assumption)) ?_
    refine w_aload_n dX2_add_67 rfl rfl (by first | decide | omega) ?_
    refine w_getIx (o := (p).toNat) (f := 7) (x := σ 0 0) fX2_add_68 (by omega) (pSh0 rfl rfl (by assumption)) (Nat.le_of_ble_eq_true rfl) rfl ((congrFun (am_up_o (by first | decide | omega)) _).trans ((congrFun (am_up_o (by first | decide | omega)) _).trans ((congrFun (am_up_o (by first | decide | omega)) _).trans ((congrFun (am_up_o (by first | decide | omega)) _).trans hC.f7)))) ?_
    refine w_iload dX2_add_71 rfl ?_
    refine w_iast (o := (p + 7).toNat) (n := 64) dX2_add_73 (by omega) (pSh 7 rfl rfl (by assumption)) (Nat.le_of_ble_eq_true rfl) (by omega) (by omega) ?_
    refine w_aload_n dX2_add_74 rfl rfl (by first | decide | omega) ?_
    refine w_getR (o := (p).toNat) (x := p + 8) fX2_add_75 (by omega) (pSh0 rfl rfl (by assumption)) rfl (pRf 13 8 rfl rfl (by assumption)) ?_
    refine w_aload_n dX2_add_78 rfl rfl (by first | decide | omega) ?_
    refine w_getIx (o := (p).toNat) (f := 7) (x := σ 0 0) fX2_add_79 (by omega) (pSh0 rfl rfl (by assumption)) (Nat.le_of_ble_eq_true rfl) rfl ((congrFun (am_up_o (by first | decide | omega)) _).trans ((congrFun (am_up_o (by first | decide | omega)) _).trans ((congrFun (am_up_o (by first | decide | omega)) _).trans ((congrFun (am_up_o (by first | decide | omega)) _).trans ((congrFun (am_up_o (by first | decide | omega)) _).trans hC.f7))))) ?_
    refine w_iconst dX2_add_82 ?_
    refine w_iast (o := (p + 8).toNat) (n := 64) dX2_add_83 (by omega) (pSh 8 rfl rfl (by assumption)) (Nat.le_of_ble_eq_true rfl) (by omega) (by omega) ?_
    refine w_aload_n dX2_add_84 rfl rfl (by first | decide | omega) ?_
    refine w_dup dX2_add_85 (by simp) ?_
    refine w_getIx (o := (p).toNat) (f := 7) (x := σ 0 0) fX2_add_86 (by omega) (pSh0 rfl rfl (by assumption)) (Nat.le_of_ble_eq_true rfl) rfl ((congrFun (am_up_o (by first | decide | omega)) _).trans ((congrFun (am_up_o (by first | decide | omega)) _).trans ((congrFun (am_up_o (by first | decide | omega)) _).trans ((congrFun (am_up_o (by first | decide | omega)) _).trans ((congrFun (am_up_o (by first | decide | omega)) _).trans ((congrFun (am_up_o (by first | decide | omega)) _).trans hC.f7)))))) ?_
    refine w_iconst dX2_add_89 ?_
    refine w_iadd dX2_add_90 ?_
    refine w_putI (o := (p).toNat) (f := 7) fX2_add_91 (by omega) (pSh0 rfl rfl (by assumption)) rfl rfl rfl ?_
    exact w_retV dX2_add_94 rfl ⟨(((((((Fr.rf.up (by omega)).up (by omega)).up (by omega)).up (by omega)).up (by omega)).up (by omega)).up (by omega)), CPS_add hC h64 hk hs hh (am_up_at.trans (by rfl)) (fun k h1 => ((am_up_nk (by omega)).trans ((congrFun (am_up_o (by omega)) _).trans ((congrFun (am_up_o (by omega)) _).trans ((congrFun (am_up_o (by omega)) _).trans ((congrFun (am_up_o (by omega)) _).trans ((congrFun (am_up_o (by omega)) _).trans (congrFun (am_up_o (by omega)) _)))))))) ((am_up_o (by omega)).trans ((am_up_o (by omega)).trans ((am_up_o (by omega)).trans ((am_up_o (by omega)).trans ((am_up_o (by omega)).trans ((am_up_o (by omega)).trans (am_up_o (by omega)))))))) ((am_up_o (by omega)).trans ((am_up_o (by omega)).trans ((am_up_o (by omega)).trans ((am_up_o (by omega)).trans ((am_up_o (by omega)).trans ((am_up_o (by omega)).trans (am_up_o (by omega)))))))) (fun j => ((congrFun (am_up_o (by omega)) _).trans ((congrFun (am_up_o (by omega)) _).trans ((congrFun (am_up_o (by omega)) _).trans ((congrFun (am_up_o (by omega)) _).trans ((congrFun (am_up_o (by omega)) _).trans ((congrFun (am_up_o (by omega)) _).trans (up_if)))))))) (fun j => ((congrFun (am_up_o (by omega)) _).trans ((congrFun (am_up_o (by omega)) _).trans ((congrFun (am_up_o (by omega)) _).trans ((congrFun (am_up_o (by omega)) _).trans ((congrFun (am_up_o (by omega)) _).trans (up_if.trans (by rw [am_up_o (by omega)])))))))) (fun j => ((congrFun (am_up_o (by omega)) _).trans ((congrFun (am_up_o (by omega)) _).trans ((congrFun (am_up_o (by omega)) _).trans ((congrFun (am_up_o (by omega)) _).trans (up_if.trans (by rw [am_up_o (by omega), am_up_o (by omega)]))))))) (fun j => ((congrFun (am_up_o (by omega)) _).trans ((congrFun (am_up_o (by omega)) _).trans ((congrFun (am_up_o (by omega)) _).trans (up_if.trans (by rw [am_up_o (by omega), am_up_o (by omega), am_up_o (by omega)])))))) (fun j => ((congrFun (am_up_o (by omega)) _).trans ((congrFun (am_up_o (by omega)) _).trans (up_if.trans (by rw [am_up_o (by omega), am_up_o (by omega), am_up_o (by omega), am_up_o (by omega)]))))) (fun j => ((congrFun (am_up_o (by omega)) _).trans (up_if.trans (by rw [am_up_o (by omega), am_up_o (by omega), am_up_o (by omega), am_up_o (by omega), am_up_o (by omega)]))))⟩
  · skip
    omega

set_option maxRecDepth 100000 in
set_option maxHeartbeats 4000000 in
theorem s_X3_takeNumberWithin (X : AX) (b : Int → Int) (n : Int) (q : Int) (lo : Int) (hi : Int) (μ : Mu) (hR : RDc b n q μ) (hat : 0 ≤ μ 42 4 ∧ μ 42 4 ≤ n) (hlh : (-1000 ≤ lo ∧ lo ≤ 1000) ∧ (-1000 ≤ hi ∧ hi ≤ 1000)) : Wp (GG X) M_X3_takeNumberWithin 0 [(2, 42), (0, lo), (0, hi)] [] μ (qI 0 fun z μ' => (Fr 42 42 1 0 μ' μ) ∧ (rdP (nW b n lo hi (μ 42 4)) z μ') ∧ (z = 1 → μ' 42 6 = (sk b n (μ 42 4))) ∧ (z = 1 → (0 ≤ μ' 42 4 ∧ μ' 42 4 ≤ n)) ∧ (z = 0 ∨ z = 1) ∧ (z = 1 → μ' 42 0 = μ 42 0 ∧ μ' 42 1 = μ 42 1) ∧ (∀ k : Int, (¬ k = 0 ∧ ¬ k = 1 ∧ ¬ k = 4 ∧ ¬ k = 5 ∧ ¬ k = 6) → μ' 42 k = μ 42 k) ∧ (RDc b n q μ')) := by
  have hn := hR.n
  have hq := hR.at
  have hbb := hR.bb
  refine w_aload_n dX3_takeNumberWithin_0 rfl rfl (by first | decide | omega) ?_
  refine w_callVI (o := 42) (ci := 3) (as := []) (rest := []) (k := 0) fX3_takeNumberWithin_1 rfl rfl rfl rfl rfl rfl rfl rfl (Nat.le_of_ble_eq_true rfl) (s_X3_takeNumber X b n q μ hR (by first | omega | assumption)) (fun xT μT hμT => ?_)
  obtain ⟨hFT, hz_T, h01_T, hf_T, hR_T⟩ := hμT
  have hf2 := nval_f b n (μ 42 4) (by omega)
  have hf3 := sk_r b n (μ 42 4) (by omega)
  have hf4 := de_r b n (sk b n (μ 42 4)) (sk_r b n (μ 42 4) (by omega)).2
  refine w_if_ne (tgt := 9) dX3_takeNumberWithin_4 rfl (R32.in (by omega)) (fun c4 => ?_) (fun c4 => ?_)
  · skip
    have hT := hz_T.resolve_right (fun q9 => by omega)
    refine w_aload_n dX3_takeNumberWithin_9 rfl rfl (by first | decide | omega) ?_
    refine w_getIx (o := 42) (f := 5) (x := nval b n (μ 42 4)) fX3_takeNumberWithin_10 rfl rfl (Nat.le_of_ble_eq_true rfl) rfl hT.2.2.1 ?_
    refine w_iload_n dX3_takeNumberWithin_13 rfl rfl ?_
    refine w_icmp_lt (tgt := 25) dX3_takeNumberWithin_14 rfl (R32.in (by omega)) (R32.in (by omega)) (fun c14 => ?_) (fun c14 => ?_)
    · skip
      refine w_aload_n dX3_takeNumberWithin_25 rfl rfl (by first | decide | omega) ?_
      refine w_iconst dX3_takeNumberWithin_26 ?_
      refine w_aload_n dX3_takeNumberWithin_27 rfl rfl (by first | decide | omega) ?_
      refine w_getIx (o := 42) (f := 6) (x := (sk b n (μ 42 4))) fX3_takeNumberWithin_28 rfl rfl (Nat.le_of_ble_eq_true rfl) rfl hT.2.2.2.1 ?_
      refine w_callVI (o := 42) (ci := 3) (as := [(0, 2), (0, (sk b n (μ 42 4)))]) (rest := []) (k := 0) fX3_takeNumberWithin_31 rfl rfl rfl rfl rfl rfl rfl rfl (Nat.le_of_ble_eq_true rfl) (s_X3_fail X 2 (sk b n (μ 42 4)) μT) (fun xF μF hμF => ?_)
      obtain ⟨hFF, hz_F, h0_F, h1_F, hf_F⟩ := hμF
      refine w_if_eq (tgt := 41) dX3_takeNumberWithin_34 rfl (R32.in (by omega)) (fun c34 => ?_) (fun c34 => ?_)
      · skip
        refine w_iconst dX3_takeNumberWithin_41 ?_
        exact w_zretI dX3_takeNumberWithin_42 rfl (Or.inl rfl) ⟨((hFF.wd (by omega) (by omega)).tr hFT), (by first | exact rdP_ok (nW_0 hT.2.1 (by omega)) rfl hT.2.2.1 hT.2.2.2.2 | exact rdP_no (nW_2 hT.2.1 (by omega)) (by omega) rfl h0_F h1_F), (by first | (intro q9; exact hT.2.2.2.1) | (intro q9; omega)), (by first | (intro q9; omega) | (intro q9; rw [hT.2.2.2.2]; have := sk_r b n (μ 42 4) (by omega); have := de_r b n (sk b n (μ 42 4)) (sk_r b n (μ 42 4) (by omega)).2; omega)), (by omega), (by first | (intro q9; omega) | exact fun _ => h01_T hT.1), (fun k h1 => ((hf_F k (by omega)).trans (hf_T k (by omega)))), (RDc.cg2 hR_T (fun o h1 => (hFF.at (by omega) (by omega))) (fun k h1 => (hf_F _ (by omega))))⟩
      · skip
        omega
    · skip
      refine w_aload_n dX3_takeNumberWithin_17 rfl rfl (by first | decide | omega) ?_
      refine w_getIx (o := 42) (f := 5) (x := nval b n (μ 42 4)) fX3_takeNumberWithin_18 rfl rfl (Nat.le_of_ble_eq_true rfl) rfl hT.2.2.1 ?_
      refine w_iload_n dX3_takeNumberWithin_21 rfl rfl ?_
      refine w_icmp_le (tgt := 37) dX3_takeNumberWithin_22 rfl (R32.in (by omega)) (R32.in (by omega)) (fun c22 => ?_) (fun c22 => ?_)
      · skip
        refine w_iconst dX3_takeNumberWithin_37 ?_
        refine w_goto (tgt := 42) dX3_takeNumberWithin_38 rfl ?_
        exact w_zretI dX3_takeNumberWithin_42 rfl (Or.inr rfl) ⟨hFT, (by first | exact rdP_ok (nW_0 hT.2.1 (by omega)) rfl hT.2.2.1 hT.2.2.2.2 | exact rdP_no (nW_2 hT.2.1 (by omega)) (by omega) rfl h0_F h1_F), (by first | (intro q9; exact hT.2.2.2.1) | (intro q9; omega)), (by first | (intro q9; omega) | (intro q9; rw [hT.2.2.2.2]; have := sk_r b n (μ 42 4) (by omega); have := de_r b n (sk b n (μ 42 4)) (sk_r b n (μ 42 4) (by omega)).2; omega)), (by omega), (by first | (intro q9; omega) | exact fun _ => h01_T hT.1), (fun k h1 => (hf_T k (by omega))), hR_T⟩
      · skip
        refine w_aload_n dX3_takeNumberWithin_25 rfl rfl (by first | decide | omega) ?_
        refine w_iconst dX3_takeNumberWithin_26 ?_
        refine w_aload_n dX3_takeNumberWithin_27 rfl rfl (by first | decide | omega) ?_
        refine w_getIx (o := 42) (f := 6) (x := (sk b n (μ 42 4))) fX3_takeNumberWithin_28 rfl rfl (Nat.le_of_ble_eq_true rfl) rfl hT.2.2.2.1 ?_
        refine w_callVI (o := 42) (ci := 3) (as := [(0, 2), (0, (sk b n (μ 42 4)))]) (rest := []) (k := 0) fX3_takeNumberWithin_31 rfl rfl rfl rfl rfl rfl rfl rfl (Nat.le_of_ble_eq_true rfl) (s_X3_fail X 2 (sk b n (μ 42 4)) μT) (fun xF μF hμF => ?_)
        obtain ⟨hFF, hz_F, h0_F, h1_F, hf_F⟩ := hμF
        refine w_if_eq (tgt := 41) dX3_takeNumberWithin_34 rfl (R32.in (by omega)) (fun c34 => ?_) (fun c34 => ?_)
        · skip
          refine w_iconst dX3_takeNumberWithin_41 ?_
          exact w_zretI dX3_takeNumberWithin_42 rfl (Or.inl rfl) ⟨((hFF.wd (by omega) (by omega)).tr hFT), (by first | exact rdP_ok (nW_0 hT.2.1 (by omega)) rfl hT.2.2.1 hT.2.2.2.2 | exact rdP_no (nW_2 hT.2.1 (by omega)) (by omega) rfl h0_F h1_F), (by first | (intro q9; exact hT.2.2.2.1) | (intro q9; omega)), (by first | (intro q9; omega) | (intro q9; rw [hT.2.2.2.2]; have := sk_r b n (μ 42 4) (by omega); have := de_r b n (sk b n (μ 42 4)) (sk_r b n (μ 42 4) (by omega)).2; omega)), (by omega), (by first | (intro q9; omega) | exact fun _ => h01_T hT.1), (fun k h1 => ((hf_F k (by omega)).trans (hf_T k (by omega)))), (RDc.cg2 hR_T (fun o h1 => (hFF.at (by omega) (by omega))) (fun k h1 => (hf_F _ (by omega))))⟩
        · skip
          omega
  · skip
    have hT := hz_T.resolve_left (fun q9 => by omega)
    refine w_iconst dX3_takeNumberWithin_7 ?_
    exact w_zretI dX3_takeNumberWithin_8 rfl (Or.inl rfl) ⟨hFT, (by exact rdP_no (nW_1 hT.2.1) (by omega) rfl hT.2.2.1 hT.2.2.2), (by first | (intro q9; exact hT.2.2.2.1) | (intro q9; omega)), (by first | (intro q9; omega) | (intro q9; rw [hT.2.2.2.2]; have := sk_r b n (μ 42 4) (by omega); have := de_r b n (sk b n (μ 42 4)) (sk_r b n (μ 42 4) (by omega)).2; omega)), (by omega), (by first | (intro q9; omega) | exact fun _ => h01_T hT.1), (fun k h1 => (hf_T k (by omega))), hR_T⟩

set_option maxRecDepth 100000 in
set_option maxHeartbeats 4000000 in
theorem s_X3_takeKind (X : AX) (b : Int → Int) (n : Int) (q : Int) (μ : Mu) (hR : RDc b n q μ) (hat : 0 ≤ μ 42 4 ∧ μ 42 4 ≤ n) : Wp (GG X) M_X3_takeKind 0 [(2, 42)] [] μ (qI 0 fun z μ' => (Fr 42 42 1 0 μ' μ) ∧ (rdP (nK b n (μ 42 4)) z μ') ∧ (z = 1 → μ' 42 6 = (sk b n (μ 42 4))) ∧ (z = 1 → (0 ≤ μ' 42 4 ∧ μ' 42 4 ≤ n)) ∧ (z = 0 ∨ z = 1) ∧ (z = 1 → μ' 42 0 = μ 42 0 ∧ μ' 42 1 = μ 42 1) ∧ (∀ k : Int, (¬ k = 0 ∧ ¬ k = 1 ∧ ¬ k = 4 ∧ ¬ k = 5 ∧ ¬ k = 6) → μ' 42 k = μ 42 k) ∧ (RDc b n q μ')) := by
  have hn := hR.n
  have hq := hR.at
  have hbb := hR.bb
  refine w_aload_n dX3_takeKind_0 rfl rfl (by first | decide | omega) ?_
  refine w_callVI (o := 42) (ci := 3) (as := []) (rest := []) (k := 0) fX3_takeKind_1 rfl rfl rfl rfl rfl rfl rfl rfl (Nat.le_of_ble_eq_true rfl) (s_X3_takeNumber X b n q μ hR (by first | omega | assumption)) (fun xT μT hμT => ?_)
  obtain ⟨hFT, hz_T, h01_T, hf_T, hR_T⟩ := hμT
  have hf2 := nval_f b n (μ 42 4) (by omega)
  have hf3 := sk_r b n (μ 42 4) (by omega)
  have hf4 := de_r b n (sk b n (μ 42 4)) (sk_r b n (μ 42 4) (by omega)).2
  refine w_if_ne (tgt := 9) dX3_takeKind_4 rfl (R32.in (by omega)) (fun c4 => ?_) (fun c4 => ?_)
  · skip
    have hT := hz_T.resolve_right (fun q9 => by omega)
    refine w_aload_n dX3_takeKind_9 rfl rfl (by first | decide | omega) ?_
    refine w_getIx (o := 42) (f := 5) (x := nval b n (μ 42 4)) fX3_takeKind_10 rfl rfl (Nat.le_of_ble_eq_true rfl) rfl hT.2.2.1 ?_
    refine w_callSP (as := [(0, nval b n (μ 42 4))]) (rest := []) (k := 0) fX3_takeKind_13 rfl rfl rfl rfl rfl (Nat.le_of_ble_eq_true rfl) (s_X2_isKind X (nval b n (μ 42 4)) μT (by first | omega | assumption)) ?_
    have hf5 := am_b_r ((nval b n (μ 42 4)) = 4 ∨ (nval b n (μ 42 4)) = 8 ∨ (nval b n (μ 42 4)) = 16 ∨ (nval b n (μ 42 4)) = 32)
    refine w_if_ne (tgt := 31) dX3_takeKind_16 rfl (R32.in (by have := am_b_r (((nval b n (μ 42 4)) = 4 ∨ (nval b n (μ 42 4)) = 8 ∨ (nval b n (μ 42 4)) = 16 ∨ (nval b n (μ 42 4)) = 32)); omega)) (fun c16 => ?_) (fun c16 => ?_)
    · skip
      replace c16 := am_b1 c16
      refine w_iconst dX3_takeKind_31 ?_
      refine w_goto (tgt := 36) dX3_takeKind_32 rfl ?_
      exact w_zretI dX3_takeKind_36 rfl (Or.inr rfl) ⟨hFT, (by first | exact rdP_ok (nK_0 hT.2.1 (by omega)) rfl hT.2.2.1 hT.2.2.2.2 | exact rdP_no (nK_2 hT.2.1 (by omega)) (by omega) rfl h0_F h1_F), (by first | (intro q9; exact hT.2.2.2.1) | (intro q9; omega)), (by first | (intro q9; omega) | (intro q9; rw [hT.2.2.2.2]; have := sk_r b n (μ 42 4) (by omega); have := de_r b n (sk b n (μ 42 4)) (sk_r b n (μ 42 4) (by omega)).2; omega)), (by omega), (by first | (intro q9; omega) | exact fun _ => h01_T hT.1), (fun k h1 => (hf_T k (by omega))), hR_T⟩
    · skip
      replace c16 := am_b0 c16
      refine w_aload_n dX3_takeKind_19 rfl rfl (by first | decide | omega) ?_
      refine w_iconst dX3_takeKind_20 ?_
      refine w_aload_n dX3_takeKind_21 rfl rfl (by first | decide | omega) ?_
      refine w_getIx (o := 42) (f := 6) (x := (sk b n (μ 42 4))) fX3_takeKind_22 rfl rfl (Nat.le_of_ble_eq_true rfl) rfl hT.2.2.2.1 ?_
      refine w_callVI (o := 42) (ci := 3) (as := [(0, 2), (0, (sk b n (μ 42 4)))]) (rest := []) (k := 0) fX3_takeKind_25 rfl rfl rfl rfl rfl rfl rfl rfl (Nat.le_of_ble_eq_true rfl) (s_X3_fail X 2 (sk b n (μ 42 4)) μT) (fun xF μF hμF => ?_)
      obtain ⟨hFF, hz_F, h0_F, h1_F, hf_F⟩ := hμF
      refine w_if_eq (tgt := 35) dX3_takeKind_28 rfl (R32.in (by omega)) (fun c28 => ?_) (fun c28 => ?_)
      · skip
        refine w_iconst dX3_takeKind_35 ?_
        exact w_zretI dX3_takeKind_36 rfl (Or.inl rfl) ⟨((hFF.wd (by omega) (by omega)).tr hFT), (by first | exact rdP_ok (nK_0 hT.2.1 (by omega)) rfl hT.2.2.1 hT.2.2.2.2 | exact rdP_no (nK_2 hT.2.1 (by omega)) (by omega) rfl h0_F h1_F), (by first | (intro q9; exact hT.2.2.2.1) | (intro q9; omega)), (by first | (intro q9; omega) | (intro q9; rw [hT.2.2.2.2]; have := sk_r b n (μ 42 4) (by omega); have := de_r b n (sk b n (μ 42 4)) (sk_r b n (μ 42 4) (by omega)).2; omega)), (by omega), (by first | (intro q9; omega) | exact fun _ => h01_T hT.1), (fun k h1 => ((hf_F k (by omega)).trans (hf_T k (by omega)))), (RDc.cg2 hR_T (fun o h1 => (hFF.at (by omega) (by omega))) (fun k h1 => (hf_F _ (by omega))))⟩
      · skip
        omega
  · skip
    have hT := hz_T.resolve_left (fun q9 => by omega)
    refine w_iconst dX3_takeKind_7 ?_
    exact w_zretI dX3_takeKind_8 rfl (Or.inl rfl) ⟨hFT, (by exact rdP_no (nK_1 hT.2.1) (by omega) rfl hT.2.2.1 hT.2.2.2), (by first | (intro q9; exact hT.2.2.2.1) | (intro q9; omega)), (by first | (intro q9; omega) | (intro q9; rw [hT.2.2.2.2]; have := sk_r b n (μ 42 4) (by omega); have := de_r b n (sk b n (μ 42 4)) (sk_r b n (μ 42 4) (by omega)).2; omega)), (by omega), (by first | (intro q9; omega) | exact fun _ => h01_T hT.1), (fun k h1 => (hf_T k (by omega))), hR_T⟩

set_option maxRecDepth 100000 in
set_option maxHeartbeats 4000000 in
theorem s_X3_takePosition (X : AX) (b : Int → Int) (n : Int) (q : Int) (μ : Mu) (hR : RDc b n q μ) (hat : 0 ≤ μ 42 4 ∧ μ 42 4 ≤ n) : Wp (GG X) M_X3_takePosition 0 [(2, 42), (9, 0), (9, 0)] [] μ (qI 0 fun z μ' => (Fr 42 42 1 0 μ' μ) ∧ (rdP (nP b n (μ 42 4)) z μ') ∧ (z = 1 → (0 ≤ μ' 42 4 ∧ μ' 42 4 ≤ n)) ∧ (z = 0 ∨ z = 1) ∧ (z = 1 → μ' 42 0 = μ 42 0 ∧ μ' 42 1 = μ 42 1) ∧ (∀ k : Int, (¬ k = 0 ∧ ¬ k = 1 ∧ ¬ k = 4 ∧ ¬ k = 5 ∧ ¬ k = 6) → μ' 42 k = μ 42 k) ∧ (RDc b n q μ')) := by
  have hn := hR.n
  have hq := hR.at
  have hbb := hR.bb
  refine w_aload_n dX3_takePosition_0 rfl rfl (by first | decide | omega) ?_
  refine w_callVV (o := 42) (ci := 3) (as := []) (rest := []) (k := 0) fX3_takePosition_1 rfl rfl rfl rfl rfl rfl rfl rfl (Nat.le_of_ble_eq_true rfl) (s_X3_skipBlanks X b n q μ hR (by first | omega | assumption)) (fun μS hμS => ?_)
  obtain ⟨hFS, h4_S, hf_S, hR_S⟩ := hμS
  have hf2 := sk_r b n (μ 42 4) (by omega)
  have hat2 : 0 ≤ μS 42 4 ∧ μS 42 4 ≤ n := by rw [h4_S]; have := sk_r b n (μ 42 4) hat.2; omega
  refine w_aload_n dX3_takePosition_4 rfl rfl (by first | decide | omega) ?_
  refine w_getIx (o := 42) (f := 4) (x := (sk b n (μ 42 4))) fX3_takePosition_5 rfl rfl (Nat.le_of_ble_eq_true rfl) rfl h4_S ?_
  refine w_istore_n (ls' := [(2, 42), (0, (sk b n (μ 42 4))), (9, 0)]) dX3_takePosition_8 rfl (Nat.le_of_ble_eq_true rfl) rfl rfl ?_
  refine w_aload_n dX3_takePosition_9 rfl rfl (by first | decide | omega) ?_
  refine w_callVP (o := 42) (ci := 3) (as := []) (rest := []) (k := 0) fX3_takePosition_10 rfl rfl rfl rfl rfl rfl rfl rfl (Nat.le_of_ble_eq_true rfl) (s_X3_here X b n q μS hR_S hat2) ?_
  have hf3 := see_f b n (μS 42 4) (by assumption) (by omega)
  have hse := see_f b n (sk b n (μ 42 4)) hbb (by have := sk_r b n (μ 42 4) hat.2; omega)
  refine Wp.topE (b := see b n (sk b n (μ 42 4))) (by rw [h4_S]) ?_
  refine w_bipush dX3_takePosition_13 (by decide) ?_
  have hJ15_1 : ∀ z1_0 : Int, z1_0 = (if ¬ (see b n (sk b n (μ 42 4))) = 45 then 0 else 1) → Wp (GG X) M_X3_takePosition 23 [(2, 42), (0, (sk b n (μ 42 4))), (9, 0)] [(0, z1_0)] μS (qI 0 fun z μ' => (Fr 42 42 1 0 μ' μ) ∧ (rdP (nP b n (μ 42 4)) z μ') ∧ (z = 1 → (0 ≤ μ' 42 4 ∧ μ' 42 4 ≤ n)) ∧ (z = 0 ∨ z = 1) ∧ (z = 1 → μ' 42 0 = μ 42 0 ∧ μ' 42 1 = μ 42 1) ∧ (∀ k : Int, (¬ k = 0 ∧ ¬ k = 1 ∧ ¬ k = 4 ∧ ¬ k = 5 ∧ ¬ k = 6) → μ' 42 k = μ 42 k) ∧ (RDc b n q μ')) := by
    intro z1_0 hz1_0
    refine w_istore_n (ls' := [(2, 42), (0, (sk b n (μ 42 4))), (0, z1_0)]) dX3_takePosition_23 rfl (Nat.le_of_ble_eq_true rfl) rfl rfl ?_
    refine w_iload_n dX3_takePosition_24 rfl rfl ?_
    refine w_if_eq (tgt := 38) dX3_takePosition_25 rfl (R32.in (by omega)) (fun c25 => ?_) (fun c25 => ?_)
    · skip
      have hsgr := sg_r (b := b) (n := n) (a := (μ 42 4)) hat.2
      have hskr := sk_r b n (μ 42 4) hat.2
      have hF_μ6 : Fr 42 42 1 0 μS μ := hFS
      have h46 : μS 42 4 = (sg b n (μ 42 4)) := (h4_S.trans (by unfold sg; first | exact (if_pos (by omega)).symm | exact (if_neg (by omega)).symm))
      have hff6 : ∀ k : Int, (¬ k = 4) → μS 42 k = μ 42 k := (fun k h1 => (hf_S k (by omega)))
      have hR6 : RDc b n q μS := hR_S
      refine Wp.mu (fun μ6 hμ6 => ?_)
      rw [← hμ6] at hF_μ6 h46 hff6 hR6
      clear hμ6
      have hat6 : 0 ≤ μ6 42 4 ∧ μ6 42 4 ≤ n := by rw [h46]; omega
      refine w_aload_n dX3_takePosition_38 rfl rfl (by first | decide | omega) ?_
      refine w_callVI (o := 42) (ci := 3) (as := []) (rest := []) (k := 0) fX3_takePosition_39 rfl rfl rfl rfl rfl rfl rfl rfl (Nat.le_of_ble_eq_true rfl) (s_X3_takeNumber X b n q μ6 hR6 hat6) (fun xT μT hμT => ?_)
      obtain ⟨hFT, hz_T, h01_T, hf_T, hR_T⟩ := hμT
      have hf5 := nval_f b n (μ6 42 4) (by omega)
      have hf6 := sk_r b n (μ6 42 4) (by omega)
      have hf7 := de_r b n (sk b n (μ6 42 4)) (sk_r b n (μ6 42 4) (by omega)).2
      rw [h46] at hz_T
      refine w_if_ne (tgt := 47) dX3_takePosition_42 rfl (R32.in (by omega)) (fun c42 => ?_) (fun c42 => ?_)
      · skip
        have hT := hz_T.resolve_right (fun q9 => by omega)
        have hnv := nval_f b n (sg b n (μ 42 4)) (by omega)
        refine w_aload_n dX3_takePosition_47 rfl rfl (by first | decide | omega) ?_
        refine w_getIx (o := 42) (f := 5) (x := nval b n (sg b n (μ 42 4))) fX3_takePosition_48 rfl rfl (Nat.le_of_ble_eq_true rfl) rfl hT.2.2.1 ?_
        refine w_bipush dX3_takePosition_51 (by decide) ?_
        refine w_icmp_le (tgt := 63) dX3_takePosition_53 rfl (R32.in (by omega)) (R32.in (by decide)) (fun c53 => ?_) (fun c53 => ?_)
        · skip
          refine w_aload_n dX3_takePosition_63 rfl rfl (by first | decide | omega) ?_
          refine w_iload_n dX3_takePosition_64 rfl rfl ?_
          refine w_if_eq (tgt := 76) dX3_takePosition_65 rfl (R32.in (by omega)) (fun c65 => ?_) (fun c65 => ?_)
          · skip
            refine w_aload_n dX3_takePosition_76 rfl rfl (by first | decide | omega) ?_
            refine w_getIx (o := 42) (f := 5) (x := nval b n (sg b n (μ 42 4))) fX3_takePosition_77 rfl rfl (Nat.le_of_ble_eq_true rfl) rfl hT.2.2.1 ?_
            refine w_putI (o := 42) (f := 5) fX3_takePosition_80 rfl rfl rfl rfl rfl ?_
            refine w_iconst dX3_takePosition_83 ?_
            exact w_zretI dX3_takePosition_84 rfl (Or.inr rfl) ⟨(((hFT.wd (by omega) (by omega)).tr hF_μ6).up (by omega)), (by exact rdP_ok (nP_0 hT.2.1 (by omega)) rfl (am_up_at.trans (by first | exact (if_pos (by omega)).symm | exact (if_neg (by omega)).symm)) ((am_up_nk (by omega)).trans hT.2.2.2.2)), (by first | (intro q9; omega) | (intro q9; rw [am_up_nk (by omega), hT.2.2.2.2]; have := sk_r b n (sg b n (μ 42 4)) (by omega); have := de_r b n (sk b n (sg b n (μ 42 4))) (sk_r b n (sg b n (μ 42 4)) (by omega)).2; omega)), (by omega), (by exact fun _ => ⟨(am_up_nk (by omega)).trans ((h01_T hT.1).1.trans (hff6 0 (by omega))), (am_up_nk (by omega)).trans ((h01_T hT.1).2.trans (hff6 1 (by omega)))⟩), (fun k h1 => ((am_up_nk (by omega)).trans ((hf_T k (by omega)).trans (hff6 k (by omega))))), (RDc.cg2 hR_T (fun o h1 => (am_up_o (by omega))) (fun k h1 => (am_up_nk (by omega))))⟩
          · skip
            refine w_aload_n dX3_takePosition_68 rfl rfl (by first | decide | omega) ?_
            refine w_getIx (o := 42) (f := 5) (x := nval b n (sg b n (μ 42 4))) fX3_takePosition_69 rfl rfl (Nat.le_of_ble_eq_true rfl) rfl hT.2.2.1 ?_
            refine w_ineg dX3_takePosition_72 ?_
            refine w_goto (tgt := 80) dX3_takePosition_73 rfl ?_
            refine w_putI (o := 42) (f := 5) fX3_takePosition_80 rfl rfl rfl rfl rfl ?_
            refine w_iconst dX3_takePosition_83 ?_
            exact w_zretI dX3_takePosition_84 rfl (Or.inr rfl) ⟨(((hFT.wd (by omega) (by omega)).tr hF_μ6).up (by omega)), (by exact rdP_ok (nP_0 hT.2.1 (by omega)) rfl (am_up_at.trans (by first | exact (if_pos (by omega)).symm | exact (if_neg (by omega)).symm)) ((am_up_nk (by omega)).trans hT.2.2.2.2)), (by first | (intro q9; omega) | (intro q9; rw [am_up_nk (by omega), hT.2.2.2.2]; have := sk_r b n (sg b n (μ 42 4)) (by omega); have := de_r b n (sk b n (sg b n (μ 42 4))) (sk_r b n (sg b n (μ 42 4)) (by omega)).2; omega)), (by omega), (by exact fun _ => ⟨(am_up_nk (by omega)).trans ((h01_T hT.1).1.trans (hff6 0 (by omega))), (am_up_nk (by omega)).trans ((h01_T hT.1).2.trans (hff6 1 (by omega)))⟩), (fun k h1 => ((am_up_nk (by omega)).trans ((hf_T k (by omega)).trans (hff6 k (by omega))))), (RDc.cg2 hR_T (fun o h1 => (am_up_o (by omega))) (fun k h1 => (am_up_nk (by omega))))⟩
        · skip
          refine w_aload_n dX3_takePosition_56 rfl rfl (by first | decide | omega) ?_
          refine w_iconst dX3_takePosition_57 ?_
          refine w_iload_n dX3_takePosition_58 rfl rfl ?_
          refine w_callVI (o := 42) (ci := 3) (as := [(0, 2), (0, (sk b n (μ 42 4)))]) (rest := []) (k := 0) fX3_takePosition_59 rfl rfl rfl rfl rfl rfl rfl rfl (Nat.le_of_ble_eq_true rfl) (s_X3_fail X 2 (sk b n (μ 42 4)) μT) (fun xF μF hμF => ?_)
          obtain ⟨hFF, hz_F, h0_F, h1_F, hf_F⟩ := hμF
          exact w_zretI dX3_takePosition_62 rfl (by omega) ⟨((hFF.wd (by omega) (by omega)).tr ((hFT.wd (by omega) (by omega)).tr hF_μ6)), (by exact rdP_no (nP_2 hT.2.1 (by omega)) (by omega) hz_F h0_F h1_F), (by first | (intro q9; omega) | (intro q9; rw [am_up_nk (by omega), hT.2.2.2.2]; have := sk_r b n (sg b n (μ 42 4)) (by omega); have := de_r b n (sk b n (sg b n (μ 42 4))) (sk_r b n (sg b n (μ 42 4)) (by omega)).2; omega)), (by omega), (by intro q9; omega), (fun k h1 => ((hf_F k (by omega)).trans ((hf_T k (by omega)).trans (hff6 k (by omega))))), (RDc.cg2 hR_T (fun o h1 => (hFF.at (by omega) (by omega))) (fun k h1 => (hf_F _ (by omega))))⟩
      · skip
        have hT := hz_T.resolve_left (fun q9 => by omega)
        refine w_iconst dX3_takePosition_45 ?_
        exact w_zretI dX3_takePosition_46 rfl (Or.inl rfl) ⟨((hFT.wd (by omega) (by omega)).tr hF_μ6), (by exact rdP_no (nP_1 hT.2.1) (by omega) rfl hT.2.2.1 hT.2.2.2), (by first | (intro q9; omega) | (intro q9; rw [am_up_nk (by omega), hT.2.2.2.2]; have := sk_r b n (sg b n (μ 42 4)) (by omega); have := de_r b n (sk b n (sg b n (μ 42 4))) (sk_r b n (sg b n (μ 42 4)) (by omega)).2; omega)), (by omega), (by intro q9; omega), (fun k h1 => ((hf_T k (by omega)).trans (hff6 k (by omega)))), hR_T⟩
    · skip
      refine w_aload_n dX3_takePosition_28 rfl rfl (by first | decide | omega) ?_
      refine w_dup dX3_takePosition_29 (by simp) ?_
      refine w_getIx (o := 42) (f := 4) (x := (sk b n (μ 42 4))) fX3_takePosition_30 rfl rfl (Nat.le_of_ble_eq_true rfl) rfl h4_S ?_
      refine w_iconst dX3_takePosition_33 ?_
      refine w_iadd dX3_takePosition_34 ?_
      refine w_putI (o := 42) (f := 4) fX3_takePosition_35 rfl rfl rfl rfl rfl ?_
      have hsgr := sg_r (b := b) (n := n) (a := (μ 42 4)) hat.2
      have hskr := sk_r b n (μ 42 4) hat.2
      have hF_μ6 : Fr 42 42 1 0 (am_up μS 42 4 ((sk b n (μ 42 4)) + 1)) μ := (hFS.up (by omega))
      have h46 : (am_up μS 42 4 ((sk b n (μ 42 4)) + 1)) 42 4 = (sg b n (μ 42 4)) := (am_up_at.trans (by unfold sg; first | exact (if_pos (by omega)).symm | exact (if_neg (by omega)).symm))
      have hff6 : ∀ k : Int, (¬ k = 4) → (am_up μS 42 4 ((sk b n (μ 42 4)) + 1)) 42 k = μ 42 k := (fun k h1 => ((am_up_nk (by omega)).trans (hf_S k (by omega))))
      have hR6 : RDc b n q (am_up μS 42 4 ((sk b n (μ 42 4)) + 1)) := (RDc.cg2 hR_S (fun o h1 => (am_up_o (by omega))) (fun k h1 => (am_up_nk (by omega))))
      refine Wp.mu (fun μ6 hμ6 => ?_)
      rw [← hμ6] at hF_μ6 h46 hff6 hR6
      clear hμ6
      have hat6 : 0 ≤ μ6 42 4 ∧ μ6 42 4 ≤ n := by rw [h46]; omega
      refine w_aload_n dX3_takePosition_38 rfl rfl (by first | decide | omega) ?_
      refine w_callVI (o := 42) (ci := 3) (as := []) (rest := []) (k := 0) fX3_takePosition_39 rfl rfl rfl rfl rfl rfl rfl rfl (Nat.le_of_ble_eq_true rfl) (s_X3_takeNumber X b n q μ6 hR6 hat6) (fun xT μT hμT => ?_)
      obtain ⟨hFT, hz_T, h01_T, hf_T, hR_T⟩ := hμT
      have hf10 := nval_f b n (μ6 42 4) (by omega)
      have hf11 := sk_r b n (μ6 42 4) (by omega)
      have hf12 := de_r b n (sk b n (μ6 42 4)) (sk_r b n (μ6 42 4) (by omega)).2
      rw [h46] at hz_T
      refine w_if_ne (tgt := 47) dX3_takePosition_42 rfl (R32.in (by omega)) (fun c42 => ?_) (fun c42 => ?_)
      · skip
        have hT := hz_T.resolve_right (fun q9 => by omega)
        have hnv := nval_f b n (sg b n (μ 42 4)) (by omega)
        refine w_aload_n dX3_takePosition_47 rfl rfl (by first | decide | omega) ?_
        refine w_getIx (o := 42) (f := 5) (x := nval b n (sg b n (μ 42 4))) fX3_takePosition_48 rfl rfl (Nat.le_of_ble_eq_true rfl) rfl hT.2.2.1 ?_
        refine w_bipush dX3_takePosition_51 (by decide) ?_
        refine w_icmp_le (tgt := 63) dX3_takePosition_53 rfl (R32.in (by omega)) (R32.in (by decide)) (fun c53 => ?_) (fun c53 => ?_)
        · skip
          refine w_aload_n dX3_takePosition_63 rfl rfl (by first | decide | omega) ?_
          refine w_iload_n dX3_takePosition_64 rfl rfl ?_
          refine w_if_eq (tgt := 76) dX3_takePosition_65 rfl (R32.in (by omega)) (fun c65 => ?_) (fun c65 => ?_)
          · skip
            refine w_aload_n dX3_takePosition_76 rfl rfl (by first | decide | omega) ?_
            refine w_getIx (o := 42) (f := 5) (x := nval b n (sg b n (μ 42 4))) fX3_takePosition_77 rfl rfl (Nat.le_of_ble_eq_true rfl) rfl hT.2.2.1 ?_
            refine w_putI (o := 42) (f := 5) fX3_takePosition_80 rfl rfl rfl rfl rfl ?_
            refine w_iconst dX3_takePosition_83 ?_
            exact w_zretI dX3_takePosition_84 rfl (Or.inr rfl) ⟨(((hFT.wd (by omega) (by omega)).tr hF_μ6).up (by omega)), (by exact rdP_ok (nP_0 hT.2.1 (by omega)) rfl (am_up_at.trans (by first | exact (if_pos (by omega)).symm | exact (if_neg (by omega)).symm)) ((am_up_nk (by omega)).trans hT.2.2.2.2)), (by first | (intro q9; omega) | (intro q9; rw [am_up_nk (by omega), hT.2.2.2.2]; have := sk_r b n (sg b n (μ 42 4)) (by omega); have := de_r b n (sk b n (sg b n (μ 42 4))) (sk_r b n (sg b n (μ 42 4)) (by omega)).2; omega)), (by omega), (by exact fun _ => ⟨(am_up_nk (by omega)).trans ((h01_T hT.1).1.trans (hff6 0 (by omega))), (am_up_nk (by omega)).trans ((h01_T hT.1).2.trans (hff6 1 (by omega)))⟩), (fun k h1 => ((am_up_nk (by omega)).trans ((hf_T k (by omega)).trans (hff6 k (by omega))))), (RDc.cg2 hR_T (fun o h1 => (am_up_o (by omega))) (fun k h1 => (am_up_nk (by omega))))⟩
          · skip
            refine w_aload_n dX3_takePosition_68 rfl rfl (by first | decide | omega) ?_
            refine w_getIx (o := 42) (f := 5) (x := nval b n (sg b n (μ 42 4))) fX3_takePosition_69 rfl rfl (Nat.le_of_ble_eq_true rfl) rfl hT.2.2.1 ?_
            refine w_ineg dX3_takePosition_72 ?_
            refine w_goto (tgt := 80) dX3_takePosition_73 rfl ?_
            refine w_putI (o := 42) (f := 5) fX3_takePosition_80 rfl rfl rfl rfl rfl ?_
            refine w_iconst dX3_takePosition_83 ?_
            exact w_zretI dX3_takePosition_84 rfl (Or.inr rfl) ⟨(((hFT.wd (by omega) (by omega)).tr hF_μ6).up (by omega)), (by exact rdP_ok (nP_0 hT.2.1 (by omega)) rfl (am_up_at.trans (by first | exact (if_pos (by omega)).symm | exact (if_neg (by omega)).symm)) ((am_up_nk (by omega)).trans hT.2.2.2.2)), (by first | (intro q9; omega) | (intro q9; rw [am_up_nk (by omega), hT.2.2.2.2]; have := sk_r b n (sg b n (μ 42 4)) (by omega); have := de_r b n (sk b n (sg b n (μ 42 4))) (sk_r b n (sg b n (μ 42 4)) (by omega)).2; omega)), (by omega), (by exact fun _ => ⟨(am_up_nk (by omega)).trans ((h01_T hT.1).1.trans (hff6 0 (by omega))), (am_up_nk (by omega)).trans ((h01_T hT.1).2.trans (hff6 1 (by omega)))⟩), (fun k h1 => ((am_up_nk (by omega)).trans ((hf_T k (by omega)).trans (hff6 k (by omega))))), (RDc.cg2 hR_T (fun o h1 => (am_up_o (by omega))) (fun k h1 => (am_up_nk (by omega))))⟩
        · skip
          refine w_aload_n dX3_takePosition_56 rfl rfl (by first | decide | omega) ?_
          refine w_iconst dX3_takePosition_57 ?_
          refine w_iload_n dX3_takePosition_58 rfl rfl ?_
          refine w_callVI (o := 42) (ci := 3) (as := [(0, 2), (0, (sk b n (μ 42 4)))]) (rest := []) (k := 0) fX3_takePosition_59 rfl rfl rfl rfl rfl rfl rfl rfl (Nat.le_of_ble_eq_true rfl) (s_X3_fail X 2 (sk b n (μ 42 4)) μT) (fun xF μF hμF => ?_)
          obtain ⟨hFF, hz_F, h0_F, h1_F, hf_F⟩ := hμF
          exact w_zretI dX3_takePosition_62 rfl (by omega) ⟨((hFF.wd (by omega) (by omega)).tr ((hFT.wd (by omega) (by omega)).tr hF_μ6)), (by exact rdP_no (nP_2 hT.2.1 (by omega)) (by omega) hz_F h0_F h1_F), (by first | (intro q9; omega) | (intro q9; rw [am_up_nk (by omega), hT.2.2.2.2]; have := sk_r b n (sg b n (μ 42 4)) (by omega); have := de_r b n (sk b n (sg b n (μ 42 4))) (sk_r b n (sg b n (μ 42 4)) (by omega)).2; omega)), (by omega), (by intro q9; omega), (fun k h1 => ((hf_F k (by omega)).trans ((hf_T k (by omega)).trans (hff6 k (by omega))))), (RDc.cg2 hR_T (fun o h1 => (hFF.at (by omega) (by omega))) (fun k h1 => (hf_F _ (by omega))))⟩
      · skip
        have hT := hz_T.resolve_left (fun q9 => by omega)
        refine w_iconst dX3_takePosition_45 ?_
        exact w_zretI dX3_takePosition_46 rfl (Or.inl rfl) ⟨((hFT.wd (by omega) (by omega)).tr hF_μ6), (by exact rdP_no (nP_1 hT.2.1) (by omega) rfl hT.2.2.1 hT.2.2.2), (by first | (intro q9; omega) | (intro q9; rw [am_up_nk (by omega), hT.2.2.2.2]; have := sk_r b n (sg b n (μ 42 4)) (by omega); have := de_r b n (sk b n (sg b n (μ 42 4))) (sk_r b n (sg b n (μ 42 4)) (by omega)).2; omega)), (by omega), (by intro q9; omega), (fun k h1 => ((hf_T k (by omega)).trans (hff6 k (by omega)))), hR_T⟩
  refine w_icmp_ne (tgt := 22) dX3_takePosition_15 rfl (R32.in (by omega)) (R32.in (by decide)) (fun c15 => ?_) (fun c15 => ?_)
  · skip
    refine w_iconst dX3_takePosition_22 ?_
    exact hJ15_1 _ (by first | omega | simp [*])
  · skip
    refine w_iconst dX3_takePosition_18 ?_
    refine w_goto (tgt := 23) dX3_takePosition_19 rfl ?_
    exact hJ15_1 _ (by first | omega | simp [*])

set_option maxRecDepth 100000 in
set_option maxHeartbeats 4000000 in
theorem s_X3_takeEnd (X : AX) (b : Int → Int) (n : Int) (q : Int) (μ : Mu) (hR : RDc b n q μ) (hat : 0 ≤ μ 42 4 ∧ μ 42 4 ≤ n) : Wp (GG X) M_X3_takeEnd 0 [(2, 42)] [] μ (qI 0 fun z μ' => (Fr 42 42 1 0 μ' μ) ∧ ((z = 1 ∧ see b n (sk b n (μ 42 4)) = 59 ∧ μ' 42 4 = (sk b n (μ 42 4)) + 1) ∨ (z = 0 ∧ ¬ see b n (sk b n (μ 42 4)) = 59 ∧ μ' 42 0 = 1 ∧ μ' 42 1 = (sk b n (μ 42 4)))) ∧ (z = 0 ∨ z = 1) ∧ (z = 1 → μ' 42 0 = μ 42 0 ∧ μ' 42 1 = μ 42 1) ∧ (∀ k : Int, (¬ k = 0 ∧ ¬ k = 1 ∧ ¬ k = 4) → μ' 42 k = μ 42 k) ∧ (RDc b n q μ')) := by
  have hn := hR.n
  have hq := hR.at
  have hbb := hR.bb
  refine w_aload_n dX3_takeEnd_0 rfl rfl (by first | decide | omega) ?_
  refine w_callVV (o := 42) (ci := 3) (as := []) (rest := []) (k := 0) fX3_takeEnd_1 rfl rfl rfl rfl rfl rfl rfl rfl (Nat.le_of_ble_eq_true rfl) (s_X3_skipBlanks X b n q μ hR (by first | omega | assumption)) (fun μS hμS => ?_)
  obtain ⟨hFS, h4_S, hf_S, hR_S⟩ := hμS
  have hf2 := sk_r b n (μ 42 4) (by omega)
  have hat2 : 0 ≤ μS 42 4 ∧ μS 42 4 ≤ n := by rw [h4_S]; have := sk_r b n (μ 42 4) hat.2; omega
  refine w_aload_n dX3_takeEnd_4 rfl rfl (by first | decide | omega) ?_
  refine w_callVP (o := 42) (ci := 3) (as := []) (rest := []) (k := 0) fX3_takeEnd_5 rfl rfl rfl rfl rfl rfl rfl rfl (Nat.le_of_ble_eq_true rfl) (s_X3_here X b n q μS hR_S hat2) ?_
  have hf3 := see_f b n (μS 42 4) (by assumption) (by omega)
  have hse := see_f b n (sk b n (μ 42 4)) hbb (by have := sk_r b n (μ 42 4) hat.2; omega)
  refine Wp.topE (b := see b n (sk b n (μ 42 4))) (by rw [h4_S]) ?_
  refine w_bipush dX3_takeEnd_8 (by decide) ?_
  refine w_icmp_eq (tgt := 23) dX3_takeEnd_10 rfl (R32.in (by omega)) (R32.in (by decide)) (fun c10 => ?_) (fun c10 => ?_)
  · skip
    refine w_aload_n dX3_takeEnd_23 rfl rfl (by first | decide | omega) ?_
    refine w_dup dX3_takeEnd_24 (by simp) ?_
    refine w_getIx (o := 42) (f := 4) (x := (sk b n (μ 42 4))) fX3_takeEnd_25 rfl rfl (Nat.le_of_ble_eq_true rfl) rfl h4_S ?_
    refine w_iconst dX3_takeEnd_28 ?_
    refine w_iadd dX3_takeEnd_29 ?_
    refine w_putI (o := 42) (f := 4) fX3_takeEnd_30 rfl rfl rfl rfl rfl ?_
    refine w_iconst dX3_takeEnd_33 ?_
    exact w_zretI dX3_takeEnd_34 rfl (Or.inr rfl) ⟨(hFS.up (by omega)), (by exact Or.inl ⟨rfl, c10, am_up_at⟩), (by omega), (by exact fun _ => ⟨(am_up_nk (by omega)).trans (hf_S 0 (by omega)), (am_up_nk (by omega)).trans (hf_S 1 (by omega))⟩), (fun k h1 => ((am_up_nk (by omega)).trans (hf_S k (by omega)))), (RDc.cg2 hR_S (fun o h1 => (am_up_o (by omega))) (fun k h1 => (am_up_nk (by omega))))⟩
  · skip
    refine w_aload_n dX3_takeEnd_13 rfl rfl (by first | decide | omega) ?_
    refine w_iconst dX3_takeEnd_14 ?_
    refine w_aload_n dX3_takeEnd_15 rfl rfl (by first | decide | omega) ?_
    refine w_getIx (o := 42) (f := 4) (x := (sk b n (μ 42 4))) fX3_takeEnd_16 rfl rfl (Nat.le_of_ble_eq_true rfl) rfl h4_S ?_
    refine w_callVI (o := 42) (ci := 3) (as := [(0, 1), (0, (sk b n (μ 42 4)))]) (rest := []) (k := 0) fX3_takeEnd_19 rfl rfl rfl rfl rfl rfl rfl rfl (Nat.le_of_ble_eq_true rfl) (s_X3_fail X 1 (sk b n (μ 42 4)) μS) (fun xF μF hμF => ?_)
    obtain ⟨hFF, hz_F, h0_F, h1_F, hf_F⟩ := hμF
    exact w_zretI dX3_takeEnd_22 rfl (by omega) ⟨((hFF.wd (by omega) (by omega)).tr hFS), (by exact Or.inr ⟨hz_F, c10, h0_F, h1_F⟩), (by omega), (by intro q9; omega), (fun k h1 => ((hf_F k (by omega)).trans (hf_S k (by omega)))), (RDc.cg2 hR_S (fun o h1 => (hFF.at (by omega) (by omega))) (fun k h1 => (hf_F _ (by omega))))⟩

set_option maxRecDepth 100000 in
set_option maxHeartbeats 4000000 in
theorem s_X3_isTooLate (X : AX) (b : Int → Int) (n : Int) (q : Int) (σ : Mu) (w : Int) (μ : Mu) (hR : RDc b n q μ) (hat : 0 ≤ μ 42 4 ∧ μ 42 4 ≤ n) (hC : CPS σ q μ) (hw : 0 ≤ w ∧ w ≤ 5) (ht1 : μ 43 1 = if 0 < σ 0 5 then 1 else 0) : Wp (GG X) M_X3_isTooLate 0 [(2, 42), (0, w)] [] μ (pP 0 (am_b (tooL σ w)) μ) := by
  have hn := hR.n
  have hq := hR.at
  have hbb := hR.bb
  have hok := hC.ok
  have h00 := hok.1.1
  have h05 := hok.1.2.2.2.2.2.1
  refine w_iload_n dX3_isTooLate_0 rfl rfl ?_
  refine w_iconst dX3_isTooLate_1 ?_
  refine w_icmp_ge (tgt := 32) dX3_isTooLate_2 rfl (R32.in (by omega)) (R32.in (by decide)) (fun c2 => ?_) (fun c2 => ?_)
  · skip
    refine w_iconst dX3_isTooLate_32 ?_
    exact w_zretP dX3_isTooLate_33 rfl (Or.inl rfl) (by first | exact am_b_t (by unfold tooL; omega) | exact am_b_f (by unfold tooL; omega))
  · skip
    refine w_aload_n dX3_isTooLate_5 rfl rfl (by first | decide | omega) ?_
    refine w_getDx (o := 42) (f := 7) (x := q) fX3_isTooLate_6 rfl rfl rfl rfl hR.pq ?_
    refine w_getIx (o := (q).toNat) (f := 7) (x := σ 0 0) fX3_isTooLate_9 (by omega) (pSh0 rfl rfl (by assumption)) (Nat.le_of_ble_eq_true rfl) rfl hC.f7 ?_
    have hr1 := hC.ok.1.1
    refine w_if_gt (tgt := 28) dX3_isTooLate_12 rfl (R32.in (by omega)) (fun c12 => ?_) (fun c12 => ?_)
    · skip
      refine w_iconst dX3_isTooLate_28 ?_
      refine w_goto (tgt := 33) dX3_isTooLate_29 rfl ?_
      exact w_zretP dX3_isTooLate_33 rfl (Or.inr rfl) (by first | exact am_b_t (by unfold tooL; omega) | exact am_b_f (by unfold tooL; omega))
    · skip
      refine w_iload_n dX3_isTooLate_15 rfl rfl ?_
      refine w_if_ne (tgt := 32) dX3_isTooLate_16 rfl (R32.in (by omega)) (fun c16 => ?_) (fun c16 => ?_)
      · skip
        refine w_iconst dX3_isTooLate_32 ?_
        exact w_zretP dX3_isTooLate_33 rfl (Or.inl rfl) (by first | exact am_b_t (by unfold tooL; omega) | exact am_b_f (by unfold tooL; omega))
      · skip
        refine w_aload_n dX3_isTooLate_19 rfl rfl (by first | decide | omega) ?_
        refine w_getR (o := 42) (x := 43) fX3_isTooLate_20 rfl rfl rfl rfl ?_
        refine w_iconst dX3_isTooLate_23 ?_
        refine w_zaldx (o := 43) (n := 3) (x := μ 43 1) dX3_isTooLate_24 rfl rfl (Nat.le_of_ble_eq_true rfl) (by omega) rfl ?_
        refine w_if_eq (tgt := 32) dX3_isTooLate_25 rfl (R32.in (by omega)) (fun c25 => ?_) (fun c25 => ?_)
        · skip
          refine w_iconst dX3_isTooLate_32 ?_
          exact w_zretP dX3_isTooLate_33 rfl (Or.inl rfl) (by first | exact am_b_t (by unfold tooL; omega) | exact am_b_f (by unfold tooL; omega))
        · skip
          refine w_iconst dX3_isTooLate_28 ?_
          refine w_goto (tgt := 33) dX3_isTooLate_29 rfl ?_
          exact w_zretP dX3_isTooLate_33 rfl (Or.inr rfl) (by first | exact am_b_t (by unfold tooL; omega) | exact am_b_f (by unfold tooL; omega))

set_option maxRecDepth 100000 in
set_option maxHeartbeats 4000000 in
theorem s_X3_readMetre (X : AX) (b : Int → Int) (n : Int) (q : Int) (σ : Mu) (μ : Mu) (hR : RDc b n q μ) (hat : 0 ≤ μ 42 4 ∧ μ 42 4 ≤ n) (hC : CPS σ q μ) (h5 : σ 0 5 = 0) : Wp (GG X) M_X3_readMetre 0 [(2, 42), (9, 0)] [] μ (qI 0 fun z μ' => (Fr 42 42 q (q + 1) μ' μ) ∧ (rdL (lMet b n σ (μ 42 4)) q z μ') ∧ (z = 1 → (0 ≤ μ' 42 4 ∧ μ' 42 4 ≤ n)) ∧ (z = 0 ∨ z = 1) ∧ (z = 1 → μ' 42 0 = μ 42 0 ∧ μ' 42 1 = μ 42 1) ∧ (∀ k : Int, (¬ k = 0 ∧ ¬ k = 1 ∧ ¬ k = 4 ∧ ¬ k = 5 ∧ ¬ k = 6) → μ' 42 k = μ 42 k) ∧ (RDc b n q μ')) := by
  have hn := hR.n
  have hq := hR.at
  have hbb := hR.bb
  have hok := hC.ok
  refine w_aload_n dX3_readMetre_0 rfl rfl (by first | decide | omega) ?_
  refine w_iconst dX3_readMetre_1 ?_
  refine w_bipush dX3_readMetre_2 (by decide) ?_
  refine w_callVI (o := 42) (ci := 3) (as := [(0, 1), (0, 12)]) (rest := []) (k := 0) fX3_readMetre_4 rfl rfl rfl rfl rfl rfl rfl rfl (Nat.le_of_ble_eq_true rfl) (s_X3_takeNumberWithin X b n q 1 12 μ hR (by first | omega | assumption) (by first | omega | assumption)) (fun xW μW hμW => ?_)
  obtain ⟨hFW, hz_W, h6_W, ha_W, hz01_W, h01_W, hf_W, hR_W⟩ := hμW
  refine w_if_ne (tgt := 12) dX3_readMetre_7 rfl (R32.in (by omega)) (fun c7 => ?_) (fun c7 => ?_)
  · skip
    have hW := hz_W.resolve_right (fun q9 => by omega)
    have hw9 := nW_z hW.2.1
    have hv1 : 1 ≤ (nW b n 1 12 (μ 42 4)).2.2.1 ∧ (nW b n 1 12 (μ 42 4)).2.2.1 ≤ 12 := by rw [hw9.2.2]; exact hw9.2.1
    have hat1 := ha_W hW.1
    have ha1 : 0 ≤ (nW b n 1 12 (μ 42 4)).2.2.2 ∧ (nW b n 1 12 (μ 42 4)).2.2.2 ≤ n := by rw [← hW.2.2.2]; exact hat1
    have hnv9 := nval_f b n (nW b n 1 12 (μ 42 4)).2.2.2 ha1.2
    refine w_aload_n dX3_readMetre_12 rfl rfl (by first | decide | omega) ?_
    refine w_getIx (o := 42) (f := 5) (x := (nW b n 1 12 (μ 42 4)).2.2.1) fX3_readMetre_13 rfl rfl (Nat.le_of_ble_eq_true rfl) rfl hW.2.2.1 ?_
    refine w_istore_n (ls' := [(2, 42), (0, (nW b n 1 12 (μ 42 4)).2.2.1)]) dX3_readMetre_16 rfl (Nat.le_of_ble_eq_true rfl) rfl rfl ?_
    refine w_aload_n dX3_readMetre_17 rfl rfl (by first | decide | omega) ?_
    refine w_callVI (o := 42) (ci := 3) (as := []) (rest := []) (k := 0) fX3_readMetre_18 rfl rfl rfl rfl rfl rfl rfl rfl (Nat.le_of_ble_eq_true rfl) (s_X3_takeNumber X b n q μW hR_W hat1) (fun xT μT hμT => ?_)
    obtain ⟨hFT, hz_T, h01_T, hf_T, hR_T⟩ := hμT
    have hf3 := nval_f b n (μW 42 4) (by omega)
    have hf4 := sk_r b n (μW 42 4) (by omega)
    have hf5 := de_r b n (sk b n (μW 42 4)) (sk_r b n (μW 42 4) (by omega)).2
    rw [hW.2.2.2] at hz_T
    refine w_if_ne (tgt := 26) dX3_readMetre_21 rfl (R32.in (by omega)) (fun c21 => ?_) (fun c21 => ?_)
    · skip
      have hT := hz_T.resolve_right (fun q9 => by omega)
      refine w_aload_n dX3_readMetre_26 rfl rfl (by first | decide | omega) ?_
      refine w_getIx (o := 42) (f := 5) (x := nval b n (nW b n 1 12 (μ 42 4)).2.2.2) fX3_readMetre_27 rfl rfl (Nat.le_of_ble_eq_true rfl) rfl hT.2.2.1 ?_
      refine w_iconst dX3_readMetre_30 ?_
      refine w_icmp_eq (tgt := 61) dX3_readMetre_31 rfl (R32.in (by omega)) (R32.in (by decide)) (fun c31 => ?_) (fun c31 => ?_)
      · skip
        refine w_aload_n dX3_readMetre_61 rfl rfl (by first | decide | omega) ?_
        refine w_getDx (o := 42) (f := 7) (x := q) fX3_readMetre_62 rfl rfl rfl rfl hR_T.pq ?_
        refine w_iload_n dX3_readMetre_65 rfl rfl ?_
        refine w_aload_n dX3_readMetre_66 rfl rfl (by first | decide | omega) ?_
        refine w_getIx (o := 42) (f := 5) (x := nval b n (nW b n 1 12 (μ 42 4)).2.2.2) fX3_readMetre_67 rfl rfl (Nat.le_of_ble_eq_true rfl) rfl hT.2.2.1 ?_
        refine w_callVV (o := (q).toNat) (ci := 2) (as := [(0, (nW b n 1 12 (μ 42 4)).2.2.1), (0, nval b n (nW b n 1 12 (μ 42 4)).2.2.2)]) (rest := []) (k := 2) fX3_readMetre_70 rfl (by omega) (pSh0 rfl rfl (by assumption)) rfl rfl rfl rfl rfl (Nat.le_of_ble_eq_true rfl) (s_X2_setMetre X q ((nW b n 1 12 (μ 42 4)).2.2.1) (nval b n (nW b n 1 12 (μ 42 4)).2.2.2) μT (by first | omega | assumption) hv1 (by omega)) (fun μM hμM => ?_)
        obtain ⟨hFM, h1_M, h2_M, hp4_M, hf_M⟩ := hμM
        have hcp : CPS (metS σ (nW b n 1 12 (μ 42 4)).2.2.1 (nval b n (nW b n 1 12 (μ 42 4)).2.2.2)) q μM := CPS_met hC h5 hv1 (by omega) (fun o h1 => (hFM.at (by omega) (by omega)).trans ((hFT.at (by omega) (by omega)).trans (hFW.at (by omega) (by omega)))) (fun k h1 => (hf_M k h1).trans ((congrFun (hFT.at (by omega) (by omega)) k).trans (congrFun (hFW.at (by omega) (by omega)) k))) h1_M h2_M hp4_M
        refine w_iconst dX3_readMetre_73 ?_
        exact w_zretI dX3_readMetre_74 rfl (Or.inr rfl) ⟨((hFM.wd (by omega) (by omega)).tr ((hFT.wd (by omega) (by omega)).tr (hFW.wd (by omega) (by omega)))), (by exact rdL_ok (by unfold lMet; rw [if_neg (fun q9 => q9 hW.2.1), if_neg (fun q9 => q9 hT.2.1), if_neg (by omega)]) rfl hcp ((congrFun (hFM.at (by omega) (by omega)) 4).trans hT.2.2.2.2)), (by first | (intro q9; omega) | (intro q9; rw [hFM.at (o := 42) (by omega) (by omega), hT.2.2.2.2]; have := sk_r b n (nW b n 1 12 (μ 42 4)).2.2.2 (by omega); have := de_r b n (sk b n (nW b n 1 12 (μ 42 4)).2.2.2) (sk_r b n (nW b n 1 12 (μ 42 4)).2.2.2 (by omega)).2; omega)), (by omega), (by exact fun _ => ⟨(congrFun (hFM.at (by omega) (by omega)) 0).trans ((h01_T hT.1).1.trans (h01_W hW.1).1), (congrFun (hFM.at (by omega) (by omega)) 1).trans ((h01_T hT.1).2.trans (h01_W hW.1).2)⟩), (fun k h1 => ((congrFun (hFM.at (by omega) (by omega)) _).trans ((hf_T k (by omega)).trans (hf_W k (by omega))))), (RDc.cg2 hR_T (fun o h1 => (hFM.at (by omega) (by omega))) (fun k h1 => (congrFun (hFM.at (by omega) (by omega)) _)))⟩
      · skip
        refine w_aload_n dX3_readMetre_34 rfl rfl (by first | decide | omega) ?_
        refine w_getIx (o := 42) (f := 5) (x := nval b n (nW b n 1 12 (μ 42 4)).2.2.2) fX3_readMetre_35 rfl rfl (Nat.le_of_ble_eq_true rfl) rfl hT.2.2.1 ?_
        refine w_iconst dX3_readMetre_38 ?_
        refine w_icmp_eq (tgt := 61) dX3_readMetre_39 rfl (R32.in (by omega)) (R32.in (by decide)) (fun c39 => ?_) (fun c39 => ?_)
        · skip
          refine w_aload_n dX3_readMetre_61 rfl rfl (by first | decide | omega) ?_
          refine w_getDx (o := 42) (f := 7) (x := q) fX3_readMetre_62 rfl rfl rfl rfl hR_T.pq ?_
          refine w_iload_n dX3_readMetre_65 rfl rfl ?_
          refine w_aload_n dX3_readMetre_66 rfl rfl (by first | decide | omega) ?_
          refine w_getIx (o := 42) (f := 5) (x := nval b n (nW b n 1 12 (μ 42 4)).2.2.2) fX3_readMetre_67 rfl rfl (Nat.le_of_ble_eq_true rfl) rfl hT.2.2.1 ?_
          refine w_callVV (o := (q).toNat) (ci := 2) (as := [(0, (nW b n 1 12 (μ 42 4)).2.2.1), (0, nval b n (nW b n 1 12 (μ 42 4)).2.2.2)]) (rest := []) (k := 2) fX3_readMetre_70 rfl (by omega) (pSh0 rfl rfl (by assumption)) rfl rfl rfl rfl rfl (Nat.le_of_ble_eq_true rfl) (s_X2_setMetre X q ((nW b n 1 12 (μ 42 4)).2.2.1) (nval b n (nW b n 1 12 (μ 42 4)).2.2.2) μT (by first | omega | assumption) hv1 (by omega)) (fun μM hμM => ?_)
          obtain ⟨hFM, h1_M, h2_M, hp4_M, hf_M⟩ := hμM
          have hcp : CPS (metS σ (nW b n 1 12 (μ 42 4)).2.2.1 (nval b n (nW b n 1 12 (μ 42 4)).2.2.2)) q μM := CPS_met hC h5 hv1 (by omega) (fun o h1 => (hFM.at (by omega) (by omega)).trans ((hFT.at (by omega) (by omega)).trans (hFW.at (by omega) (by omega)))) (fun k h1 => (hf_M k h1).trans ((congrFun (hFT.at (by omega) (by omega)) k).trans (congrFun (hFW.at (by omega) (by omega)) k))) h1_M h2_M hp4_M
          refine w_iconst dX3_readMetre_73 ?_
          exact w_zretI dX3_readMetre_74 rfl (Or.inr rfl) ⟨((hFM.wd (by omega) (by omega)).tr ((hFT.wd (by omega) (by omega)).tr (hFW.wd (by omega) (by omega)))), (by exact rdL_ok (by unfold lMet; rw [if_neg (fun q9 => q9 hW.2.1), if_neg (fun q9 => q9 hT.2.1), if_neg (by omega)]) rfl hcp ((congrFun (hFM.at (by omega) (by omega)) 4).trans hT.2.2.2.2)), (by first | (intro q9; omega) | (intro q9; rw [hFM.at (o := 42) (by omega) (by omega), hT.2.2.2.2]; have := sk_r b n (nW b n 1 12 (μ 42 4)).2.2.2 (by omega); have := de_r b n (sk b n (nW b n 1 12 (μ 42 4)).2.2.2) (sk_r b n (nW b n 1 12 (μ 42 4)).2.2.2 (by omega)).2; omega)), (by omega), (by exact fun _ => ⟨(congrFun (hFM.at (by omega) (by omega)) 0).trans ((h01_T hT.1).1.trans (h01_W hW.1).1), (congrFun (hFM.at (by omega) (by omega)) 1).trans ((h01_T hT.1).2.trans (h01_W hW.1).2)⟩), (fun k h1 => ((congrFun (hFM.at (by omega) (by omega)) _).trans ((hf_T k (by omega)).trans (hf_W k (by omega))))), (RDc.cg2 hR_T (fun o h1 => (hFM.at (by omega) (by omega))) (fun k h1 => (congrFun (hFM.at (by omega) (by omega)) _)))⟩
        · skip
          refine w_aload_n dX3_readMetre_42 rfl rfl (by first | decide | omega) ?_
          refine w_getIx (o := 42) (f := 5) (x := nval b n (nW b n 1 12 (μ 42 4)).2.2.2) fX3_readMetre_43 rfl rfl (Nat.le_of_ble_eq_true rfl) rfl hT.2.2.1 ?_
          refine w_bipush dX3_readMetre_46 (by decide) ?_
          refine w_icmp_eq (tgt := 61) dX3_readMetre_48 rfl (R32.in (by omega)) (R32.in (by decide)) (fun c48 => ?_) (fun c48 => ?_)
          · skip
            refine w_aload_n dX3_readMetre_61 rfl rfl (by first | decide | omega) ?_
            refine w_getDx (o := 42) (f := 7) (x := q) fX3_readMetre_62 rfl rfl rfl rfl hR_T.pq ?_
            refine w_iload_n dX3_readMetre_65 rfl rfl ?_
            refine w_aload_n dX3_readMetre_66 rfl rfl (by first | decide | omega) ?_
            refine w_getIx (o := 42) (f := 5) (x := nval b n (nW b n 1 12 (μ 42 4)).2.2.2) fX3_readMetre_67 rfl rfl (Nat.le_of_ble_eq_true rfl) rfl hT.2.2.1 ?_
            refine w_callVV (o := (q).toNat) (ci := 2) (as := [(0, (nW b n 1 12 (μ 42 4)).2.2.1), (0, nval b n (nW b n 1 12 (μ 42 4)).2.2.2)]) (rest := []) (k := 2) fX3_readMetre_70 rfl (by omega) (pSh0 rfl rfl (by assumption)) rfl rfl rfl rfl rfl (Nat.le_of_ble_eq_true rfl) (s_X2_setMetre X q ((nW b n 1 12 (μ 42 4)).2.2.1) (nval b n (nW b n 1 12 (μ 42 4)).2.2.2) μT (by first | omega | assumption) hv1 (by omega)) (fun μM hμM => ?_)
            obtain ⟨hFM, h1_M, h2_M, hp4_M, hf_M⟩ := hμM
            have hcp : CPS (metS σ (nW b n 1 12 (μ 42 4)).2.2.1 (nval b n (nW b n 1 12 (μ 42 4)).2.2.2)) q μM := CPS_met hC h5 hv1 (by omega) (fun o h1 => (hFM.at (by omega) (by omega)).trans ((hFT.at (by omega) (by omega)).trans (hFW.at (by omega) (by omega)))) (fun k h1 => (hf_M k h1).trans ((congrFun (hFT.at (by omega) (by omega)) k).trans (congrFun (hFW.at (by omega) (by omega)) k))) h1_M h2_M hp4_M
            refine w_iconst dX3_readMetre_73 ?_
            exact w_zretI dX3_readMetre_74 rfl (Or.inr rfl) ⟨((hFM.wd (by omega) (by omega)).tr ((hFT.wd (by omega) (by omega)).tr (hFW.wd (by omega) (by omega)))), (by exact rdL_ok (by unfold lMet; rw [if_neg (fun q9 => q9 hW.2.1), if_neg (fun q9 => q9 hT.2.1), if_neg (by omega)]) rfl hcp ((congrFun (hFM.at (by omega) (by omega)) 4).trans hT.2.2.2.2)), (by first | (intro q9; omega) | (intro q9; rw [hFM.at (o := 42) (by omega) (by omega), hT.2.2.2.2]; have := sk_r b n (nW b n 1 12 (μ 42 4)).2.2.2 (by omega); have := de_r b n (sk b n (nW b n 1 12 (μ 42 4)).2.2.2) (sk_r b n (nW b n 1 12 (μ 42 4)).2.2.2 (by omega)).2; omega)), (by omega), (by exact fun _ => ⟨(congrFun (hFM.at (by omega) (by omega)) 0).trans ((h01_T hT.1).1.trans (h01_W hW.1).1), (congrFun (hFM.at (by omega) (by omega)) 1).trans ((h01_T hT.1).2.trans (h01_W hW.1).2)⟩), (fun k h1 => ((congrFun (hFM.at (by omega) (by omega)) _).trans ((hf_T k (by omega)).trans (hf_W k (by omega))))), (RDc.cg2 hR_T (fun o h1 => (hFM.at (by omega) (by omega))) (fun k h1 => (congrFun (hFM.at (by omega) (by omega)) _)))⟩
          · skip
            refine w_aload_n dX3_readMetre_51 rfl rfl (by first | decide | omega) ?_
            refine w_iconst dX3_readMetre_52 ?_
            refine w_aload_n dX3_readMetre_53 rfl rfl (by first | decide | omega) ?_
            refine w_getIx (o := 42) (f := 6) (x := sk b n (nW b n 1 12 (μ 42 4)).2.2.2) fX3_readMetre_54 rfl rfl (Nat.le_of_ble_eq_true rfl) rfl hT.2.2.2.1 ?_
            refine w_callVI (o := 42) (ci := 3) (as := [(0, 2), (0, sk b n (nW b n 1 12 (μ 42 4)).2.2.2)]) (rest := []) (k := 0) fX3_readMetre_57 rfl rfl rfl rfl rfl rfl rfl rfl (Nat.le_of_ble_eq_true rfl) (s_X3_fail X 2 (sk b n (nW b n 1 12 (μ 42 4)).2.2.2) μT) (fun xF μF hμF => ?_)
            obtain ⟨hFF, hz_F, h0_F, h1_F, hf_F⟩ := hμF
            exact w_zretI dX3_readMetre_60 rfl (by omega) ⟨((hFF.wd (by omega) (by omega)).tr ((hFT.wd (by omega) (by omega)).tr (hFW.wd (by omega) (by omega)))), (by exact rdL_no (by unfold lMet; rw [if_neg (fun q9 => q9 hW.2.1), if_neg (fun q9 => q9 hT.2.1), if_pos (by omega)]) (by omega) hz_F h0_F h1_F), (by first | (intro q9; omega) | (intro q9; rw [hFM.at (o := 42) (by omega) (by omega), hT.2.2.2.2]; have := sk_r b n (nW b n 1 12 (μ 42 4)).2.2.2 (by omega); have := de_r b n (sk b n (nW b n 1 12 (μ 42 4)).2.2.2) (sk_r b n (nW b n 1 12 (μ 42 4)).2.2.2 (by omega)).2; omega)), (by omega), (by intro q9; omega), (fun k h1 => ((hf_F k (by omega)).trans ((hf_T k (by omega)).trans (hf_W k (by omega))))), (RDc.cg2 hR_T (fun o h1 => (hFF.at (by omega) (by omega))) (fun k h1 => (hf_F _ (by omega))))⟩
    · skip
      have hT := hz_T.resolve_left (fun q9 => by omega)
      refine w_iconst dX3_readMetre_24 ?_
      exact w_zretI dX3_readMetre_25 rfl (Or.inl rfl) ⟨((hFT.wd (by omega) (by omega)).tr (hFW.wd (by omega) (by omega))), (by exact rdL_no (by unfold lMet; rw [if_neg (fun q9 => q9 hW.2.1), if_pos hT.2.1]) (by omega) rfl hT.2.2.1 hT.2.2.2), (by first | (intro q9; omega) | (intro q9; rw [hFM.at (o := 42) (by omega) (by omega), hT.2.2.2.2]; have := sk_r b n (nW b n 1 12 (μ 42 4)).2.2.2 (by omega); have := de_r b n (sk b n (nW b n 1 12 (μ 42 4)).2.2.2) (sk_r b n (nW b n 1 12 (μ 42 4)).2.2.2 (by omega)).2; omega)), (by omega), (by intro q9; omega), (fun k h1 => ((hf_T k (by omega)).trans (hf_W k (by omega)))), hR_T⟩
  · skip
    have hW := hz_W.resolve_left (fun q9 => by omega)
    refine w_iconst dX3_readMetre_10 ?_
    exact w_zretI dX3_readMetre_11 rfl (Or.inl rfl) ⟨(hFW.wd (by omega) (by omega)), (by exact rdL_no (by unfold lMet; rw [if_pos hW.2.1]) hW.2.1 rfl hW.2.2.1 hW.2.2.2), (by first | (intro q9; omega) | (intro q9; rw [hFM.at (o := 42) (by omega) (by omega), hT.2.2.2.2]; have := sk_r b n (nW b n 1 12 (μ 42 4)).2.2.2 (by omega); have := de_r b n (sk b n (nW b n 1 12 (μ 42 4)).2.2.2) (sk_r b n (nW b n 1 12 (μ 42 4)).2.2.2 (by omega)).2; omega)), (by omega), (by intro q9; omega), (fun k h1 => (hf_W k (by omega))), hR_W⟩

set_option maxRecDepth 100000 in
set_option maxHeartbeats 4000000 in
theorem s_X3_readKnee (X : AX) (b : Int → Int) (n : Int) (q : Int) (σ : Mu) (μ : Mu) (hR : RDc b n q μ) (hat : 0 ≤ μ 42 4 ∧ μ 42 4 ≤ n) (hC : CPS σ q μ) : Wp (GG X) M_X3_readKnee 0 [(2, 42)] [] μ (qI 0 fun z μ' => (Fr 42 42 q q μ' μ) ∧ (rdL (lKne b n σ (μ 42 4)) q z μ') ∧ (z = 1 → (0 ≤ μ' 42 4 ∧ μ' 42 4 ≤ n)) ∧ (z = 0 ∨ z = 1) ∧ (z = 1 → μ' 42 0 = μ 42 0 ∧ μ' 42 1 = μ 42 1) ∧ (∀ k : Int, (¬ k = 0 ∧ ¬ k = 1 ∧ ¬ k = 4 ∧ ¬ k = 5 ∧ ¬ k = 6) → μ' 42 k = μ 42 k) ∧ (RDc b n q μ')) := by
  have hn := hR.n
  have hq := hR.at
  have hbb := hR.bb
  refine w_aload_n dX3_readKnee_0 rfl rfl (by first | decide | omega) ?_
  refine w_iconst dX3_readKnee_1 ?_
  refine w_bipush dX3_readKnee_2 (by decide) ?_
  refine w_callVI (o := 42) (ci := 3) (as := [(0, 4), (0, 24)]) (rest := []) (k := 0) fX3_readKnee_4 rfl rfl rfl rfl rfl rfl rfl rfl (Nat.le_of_ble_eq_true rfl) (s_X3_takeNumberWithin X b n q 4 24 μ hR (by first | omega | assumption) (by first | omega | assumption)) (fun xW μW hμW => ?_)
  obtain ⟨hFW, hz_W, h6_W, ha_W, hz01_W, h01_W, hf_W, hR_W⟩ := hμW
  refine w_if_ne (tgt := 12) dX3_readKnee_7 rfl (R32.in (by omega)) (fun c7 => ?_) (fun c7 => ?_)
  · skip
    have hW := hz_W.resolve_right (fun q9 => by omega)
    have hw9 := nW_z hW.2.1
    have hv1 : 4 ≤ (nW b n 4 24 (μ 42 4)).2.2.1 ∧ (nW b n 4 24 (μ 42 4)).2.2.1 ≤ 24 := by rw [hw9.2.2]; exact hw9.2.1
    refine w_aload_n dX3_readKnee_12 rfl rfl (by first | decide | omega) ?_
    refine w_getDx (o := 42) (f := 7) (x := q) fX3_readKnee_13 rfl rfl rfl rfl hR_W.pq ?_
    refine w_aload_n dX3_readKnee_16 rfl rfl (by first | decide | omega) ?_
    refine w_getIx (o := 42) (f := 5) (x := (nW b n 4 24 (μ 42 4)).2.2.1) fX3_readKnee_17 rfl rfl (Nat.le_of_ble_eq_true rfl) rfl hW.2.2.1 ?_
    refine w_putI (o := (q).toNat) (f := 3) fX3_readKnee_20 (by omega) (pSh0 rfl rfl (by assumption)) rfl rfl rfl ?_
    refine w_iconst dX3_readKnee_23 ?_
    exact w_zretI dX3_readKnee_24 rfl (Or.inr rfl) ⟨((hFW.wd (by omega) (by omega)).up (by omega)), (by exact rdL_ok (by unfold lKne; rw [if_neg (fun q9 => q9 hW.2.1)]) rfl (CPS_kn hC hv1 (fun o h1 => (am_up_o (by omega)).trans (hFW.at (by omega) (by omega))) (fun k h1 => (am_up_nk h1).trans (congrFun (hFW.at (by omega) (by omega)) k)) am_up_at) ((congrFun (am_up_o (by omega)) 4).trans hW.2.2.2)), (by first | (intro q9; omega) | (intro q9; rw [am_up_o (by omega)]; exact ha_W hW.1)), (by omega), (by exact fun _ => ⟨(congrFun (am_up_o (by omega)) 0).trans (h01_W hW.1).1, (congrFun (am_up_o (by omega)) 1).trans (h01_W hW.1).2⟩), (fun k h1 => ((congrFun (am_up_o (by omega)) _).trans (hf_W k (by omega)))), (RDc.cg2 hR_W (fun o h1 => (am_up_o (by omega))) (fun k h1 => (congrFun (am_up_o (by omega)) _)))⟩
  · skip
    have hW := hz_W.resolve_left (fun q9 => by omega)
    refine w_iconst dX3_readKnee_10 ?_
    exact w_zretI dX3_readKnee_11 rfl (Or.inl rfl) ⟨(hFW.wd (by omega) (by omega)), (by exact rdL_no (by unfold lKne; rw [if_pos hW.2.1]) hW.2.1 rfl hW.2.2.1 hW.2.2.2), (by first | (intro q9; omega) | (intro q9; rw [am_up_o (by omega)]; exact ha_W hW.1)), (by omega), (by intro q9; omega), (fun k h1 => (hf_W k (by omega))), hR_W⟩

set_option maxRecDepth 100000 in
set_option maxHeartbeats 4000000 in
theorem s_X3_readWide (X : AX) (b : Int → Int) (n : Int) (q : Int) (σ : Mu) (μ : Mu) (hR : RDc b n q μ) (hat : 0 ≤ μ 42 4 ∧ μ 42 4 ≤ n) (hC : CPS σ q μ) (h00 : σ 0 0 = 0) (h44 : ∀ k : Int, 0 ≤ k → k < 4 → μ 44 k = σ 8 k) : Wp (GG X) M_X3_readWide 0 [(2, 42), (9, 0)] [] μ (qI 0 fun z μ' => (Fr 42 44 q (q + 2) μ' μ) ∧ (rdL (lWid b n σ (μ 42 4)) q z μ') ∧ (z = 1 → ∀ k : Int, 0 ≤ k → k < 4 → μ' 44 k = wdS σ (bok (nK b n (μ 42 4)).2.2.1) (nW b n 4 40 (nK b n (μ 42 4)).2.2.2).2.2.1 8 k) ∧ (z = 1 → (0 ≤ μ' 42 4 ∧ μ' 42 4 ≤ n)) ∧ (μ' 43 = μ 43) ∧ (z = 0 ∨ z = 1) ∧ (z = 1 → μ' 42 0 = μ 42 0 ∧ μ' 42 1 = μ 42 1) ∧ (∀ k : Int, (¬ k = 0 ∧ ¬ k = 1 ∧ ¬ k = 4 ∧ ¬ k = 5 ∧ ¬ k = 6) → μ' 42 k = μ 42 k) ∧ (RDc b n q μ')) := by
  have hn := hR.n
  have hq := hR.at
  have hbb := hR.bb
  have hok := hC.ok
  refine w_aload_n dX3_readWide_0 rfl rfl (by first | decide | omega) ?_
  refine w_callVI (o := 42) (ci := 3) (as := []) (rest := []) (k := 0) fX3_readWide_1 rfl rfl rfl rfl rfl rfl rfl rfl (Nat.le_of_ble_eq_true rfl) (s_X3_takeKind X b n q μ hR (by first | omega | assumption)) (fun xK μK hμK => ?_)
  obtain ⟨hFK, hz_K, h6_K, ha_K, hz01_K, h01_K, hf_K, hR_K⟩ := hμK
  refine w_if_ne (tgt := 9) dX3_readWide_4 rfl (R32.in (by omega)) (fun c4 => ?_) (fun c4 => ?_)
  · skip
    have hK := hz_K.resolve_right (fun q9 => by omega)
    have hk9 := nK_z hK.2.1
    have hk4 : (nK b n (μ 42 4)).2.2.1 = 4 ∨ (nK b n (μ 42 4)).2.2.1 = 8 ∨ (nK b n (μ 42 4)).2.2.1 = 16 ∨ (nK b n (μ 42 4)).2.2.1 = 32 := by rw [hk9.2.2]; exact hk9.2.1
    have hbk := bok_r (nK b n (μ 42 4)).2.2.1
    have hat1 := ha_K hK.1
    have ha1 : 0 ≤ (nK b n (μ 42 4)).2.2.2 ∧ (nK b n (μ 42 4)).2.2.2 ≤ n := by rw [← hK.2.2.2]; exact hat1
    have hs8 := (hok.2.2.1 (bok (nK b n (μ 42 4)).2.2.1) (by omega) (by omega)).2
    refine w_aload_n dX3_readWide_9 rfl rfl (by first | decide | omega) ?_
    refine w_getIx (o := 42) (f := 5) (x := (nK b n (μ 42 4)).2.2.1) fX3_readWide_10 rfl rfl (Nat.le_of_ble_eq_true rfl) rfl hK.2.2.1 ?_
    refine w_callSP (as := [(0, (nK b n (μ 42 4)).2.2.1)]) (rest := []) (k := 0) fX3_readWide_13 rfl rfl rfl rfl rfl (Nat.le_of_ble_eq_true rfl) (s_X2_beamsOfKind X ((nK b n (μ 42 4)).2.2.1) μK (by first | omega | assumption)) ?_
    have hf2 := bok_r ((nK b n (μ 42 4)).2.2.1)
    refine w_istore_n (ls' := [(2, 42), (0, bok ((nK b n (μ 42 4)).2.2.1))]) dX3_readWide_16 rfl (Nat.le_of_ble_eq_true rfl) rfl rfl ?_
    refine w_aload_n dX3_readWide_17 rfl rfl (by first | decide | omega) ?_
    refine w_getR (o := 42) (x := 44) fX3_readWide_18 rfl rfl rfl rfl ?_
    refine w_iload_n dX3_readWide_21 rfl rfl ?_
    refine w_zaldx (o := 44) (n := 4) (x := σ 8 (bok ((nK b n (μ 42 4)).2.2.1))) dX3_readWide_22 rfl rfl (Nat.le_of_ble_eq_true rfl) (by omega) ((congrFun (hFK.at (by omega) (by omega)) _).trans (h44 _ (by omega) (by omega))) ?_
    refine w_if_eq (tgt := 36) dX3_readWide_23 rfl (R32.in (by omega)) (fun c23 => ?_) (fun c23 => ?_)
    · skip
      refine w_aload_n dX3_readWide_36 rfl rfl (by first | decide | omega) ?_
      refine w_getR (o := 42) (x := 44) fX3_readWide_37 rfl rfl rfl rfl ?_
      refine w_iload_n dX3_readWide_40 rfl rfl ?_
      refine w_iconst dX3_readWide_41 ?_
      refine w_zast (o := 44) (n := 4) dX3_readWide_42 rfl rfl (Nat.le_of_ble_eq_true rfl) (by omega) (by omega) (Or.inr rfl) ?_
      refine w_aload_n dX3_readWide_43 rfl rfl (by first | decide | omega) ?_
      refine w_iconst dX3_readWide_44 ?_
      refine w_bipush dX3_readWide_45 (by decide) ?_
      refine w_callVI (o := 42) (ci := 3) (as := [(0, 4), (0, 40)]) (rest := []) (k := 0) fX3_readWide_47 rfl rfl rfl rfl rfl rfl rfl rfl (Nat.le_of_ble_eq_true rfl) (s_X3_takeNumberWithin X b n q 4 40 (am_up μK 44 (bok ((nK b n (μ 42 4)).2.2.1)) 1) (RDc.cg2 hR_K (fun o h1 => (am_up_o (by omega))) (fun k h1 => (congrFun (am_up_o (by omega)) _))) (by rw [am_up_o (by omega)]; exact hat1) (by first | omega | assumption)) (fun xW μW hμW => ?_)
      obtain ⟨hFW, hz_W, h6_W, ha_W, hz01_W, h01_W, hf_W, hR_W⟩ := hμW
      rw [am_up_o (by omega), hK.2.2.2] at hz_W
      refine w_if_ne (tgt := 55) dX3_readWide_50 rfl (R32.in (by omega)) (fun c50 => ?_) (fun c50 => ?_)
      · skip
        have hW := hz_W.resolve_right (fun q9 => by omega)
        have hw9 := nW_z hW.2.1
        have hv1 : 4 ≤ (nW b n 4 40 (nK b n (μ 42 4)).2.2.2).2.2.1 ∧ (nW b n 4 40 (nK b n (μ 42 4)).2.2.2).2.2.1 ≤ 40 := by rw [hw9.2.2]; exact hw9.2.1
        refine w_aload_n dX3_readWide_55 rfl rfl (by first | decide | omega) ?_
        refine w_getDx (o := 42) (f := 7) (x := q) fX3_readWide_56 rfl rfl rfl rfl hR_W.pq ?_
        refine w_getR (o := (q).toNat) (x := q + 2) fX3_readWide_59 (by omega) (pSh0 rfl rfl (by assumption)) rfl (pRf 6 2 rfl rfl (by assumption)) ?_
        refine w_iload_n dX3_readWide_62 rfl rfl ?_
        refine w_aload_n dX3_readWide_63 rfl rfl (by first | decide | omega) ?_
        refine w_getIx (o := 42) (f := 5) (x := (nW b n 4 40 (nK b n (μ 42 4)).2.2.2).2.2.1) fX3_readWide_64 rfl rfl (Nat.le_of_ble_eq_true rfl) rfl hW.2.2.1 ?_
        refine w_iast (o := (q + 2).toNat) (n := 4) dX3_readWide_67 (by omega) (pSh 2 rfl rfl (by assumption)) (Nat.le_of_ble_eq_true rfl) (by omega) (by omega) ?_
        refine w_iconst dX3_readWide_68 ?_
        exact w_zretI dX3_readWide_69 rfl (Or.inr rfl) ⟨(((hFW.wd (by omega) (by omega)).tr ((hFK.wd (by omega) (by omega)).up (by omega))).up (by omega)), (by exact rdL_ok (by unfold lWid; rw [if_neg (fun q9 => q9 hK.2.1), if_neg (fun q9 => q9 c23), if_neg (fun q9 => q9 hW.2.1)]) rfl (CPS_wd hC h00 (by omega) hv1 (fun o h1 h2 => (am_up_o h2).trans ((hFW.at (by omega) (by omega)).trans ((am_up_o (by omega)).trans (hFK.at (by omega) (by omega))))) (fun j => up_if.trans (by rw [hFW.at (by omega) (by omega), am_up_o (by omega), hFK.at (by omega) (by omega)]))) ((congrFun (am_up_o (by omega)) 4).trans hW.2.2.2)), (by first | (intro q9; omega) | (intro q9 k h1 h2; rw [am_up_o (by omega), hFW.at (o := 44) (by omega) (by omega), up_if]; unfold wdS; rw [am_up_o (by omega), up_if, hFK.at (o := 44) (by omega) (by omega), h44 k h1 h2])), (by first | (intro q9; omega) | (intro q9; rw [am_up_o (by omega)]; exact ha_W hW.1)), ((am_up_o (by omega)).trans ((hFW.at (by omega) (by omega)).trans ((am_up_o (by omega)).trans (hFK.at (by omega) (by omega))))), (by omega), (by exact fun _ => ⟨(congrFun (am_up_o (by omega)) 0).trans ((h01_W hW.1).1.trans ((congrFun (am_up_o (by omega)) 0).trans (h01_K hK.1).1)), (congrFun (am_up_o (by omega)) 1).trans ((h01_W hW.1).2.trans ((congrFun (am_up_o (by omega)) 1).trans (h01_K hK.1).2))⟩), (fun k h1 => ((congrFun (am_up_o (by omega)) _).trans ((hf_W k (by omega)).trans ((congrFun (am_up_o (by omega)) _).trans (hf_K k (by omega)))))), (RDc.cg2 hR_W (fun o h1 => (am_up_o (by omega))) (fun k h1 => (congrFun (am_up_o (by omega)) _)))⟩
      · skip
        have hW := hz_W.resolve_left (fun q9 => by omega)
        refine w_iconst dX3_readWide_53 ?_
        exact w_zretI dX3_readWide_54 rfl (Or.inl rfl) ⟨((hFW.wd (by omega) (by omega)).tr ((hFK.wd (by omega) (by omega)).up (by omega))), (by exact rdL_no (by unfold lWid; rw [if_neg (fun q9 => q9 hK.2.1), if_neg (fun q9 => q9 c23), if_pos hW.2.1]) hW.2.1 rfl hW.2.2.1 hW.2.2.2), (by first | (intro q9; omega) | (intro q9 k h1 h2; rw [am_up_o (by omega), hFW.at (o := 44) (by omega) (by omega), up_if]; unfold wdS; rw [am_up_o (by omega), up_if, hFK.at (o := 44) (by omega) (by omega), h44 k h1 h2])), (by first | (intro q9; omega) | (intro q9; rw [am_up_o (by omega)]; exact ha_W hW.1)), ((hFW.at (by omega) (by omega)).trans ((am_up_o (by omega)).trans (hFK.at (by omega) (by omega)))), (by omega), (by intro q9; omega), (fun k h1 => ((hf_W k (by omega)).trans ((congrFun (am_up_o (by omega)) _).trans (hf_K k (by omega))))), hR_W⟩
    · skip
      refine w_aload_n dX3_readWide_26 rfl rfl (by first | decide | omega) ?_
      refine w_iconst dX3_readWide_27 ?_
      refine w_aload_n dX3_readWide_28 rfl rfl (by first | decide | omega) ?_
      refine w_getIx (o := 42) (f := 6) (x := (sk b n (μ 42 4))) fX3_readWide_29 rfl rfl (Nat.le_of_ble_eq_true rfl) rfl (h6_K hK.1) ?_
      refine w_callVI (o := 42) (ci := 3) (as := [(0, 3), (0, (sk b n (μ 42 4)))]) (rest := []) (k := 0) fX3_readWide_32 rfl rfl rfl rfl rfl rfl rfl rfl (Nat.le_of_ble_eq_true rfl) (s_X3_fail X 3 (sk b n (μ 42 4)) μK) (fun xF μF hμF => ?_)
      obtain ⟨hFF, hz_F, h0_F, h1_F, hf_F⟩ := hμF
      exact w_zretI dX3_readWide_35 rfl (by omega) ⟨((hFF.wd (by omega) (by omega)).tr (hFK.wd (by omega) (by omega))), (by exact rdL_no (by unfold lWid; rw [if_neg (fun q9 => q9 hK.2.1), if_pos c23]) (by omega) hz_F h0_F h1_F), (by first | (intro q9; omega) | (intro q9 k h1 h2; rw [am_up_o (by omega), hFW.at (o := 44) (by omega) (by omega), up_if]; unfold wdS; rw [am_up_o (by omega), up_if, hFK.at (o := 44) (by omega) (by omega), h44 k h1 h2])), (by first | (intro q9; omega) | (intro q9; rw [am_up_o (by omega)]; exact ha_W hW.1)), ((hFF.at (by omega) (by omega)).trans (hFK.at (by omega) (by omega))), (by omega), (by intro q9; omega), (fun k h1 => ((hf_F k (by omega)).trans (hf_K k (by omega)))), (RDc.cg2 hR_K (fun o h1 => (hFF.at (by omega) (by omega))) (fun k h1 => (hf_F _ (by omega))))⟩
  · skip
    have hK := hz_K.resolve_left (fun q9 => by omega)
    refine w_iconst dX3_readWide_7 ?_
    exact w_zretI dX3_readWide_8 rfl (Or.inl rfl) ⟨(hFK.wd (by omega) (by omega)), (by exact rdL_no (by unfold lWid; rw [if_pos hK.2.1]) hK.2.1 rfl hK.2.2.1 hK.2.2.2), (by first | (intro q9; omega) | (intro q9 k h1 h2; rw [am_up_o (by omega), hFW.at (o := 44) (by omega) (by omega), up_if]; unfold wdS; rw [am_up_o (by omega), up_if, hFK.at (o := 44) (by omega) (by omega), h44 k h1 h2])), (by first | (intro q9; omega) | (intro q9; rw [am_up_o (by omega)]; exact ha_W hW.1)), (hFK.at (by omega) (by omega)), (by omega), (by intro q9; omega), (fun k h1 => (hf_K k (by omega))), hR_K⟩

set_option maxRecDepth 100000 in
set_option maxHeartbeats 4000000 in
theorem s_X3_readElement (X : AX) (b : Int → Int) (n : Int) (q : Int) (σ : Mu) (so : Int) (μ : Mu) (hR : RDc b n q μ) (hat : 0 ≤ μ 42 4 ∧ μ 42 4 ≤ n) (hC : CPS σ q μ) (hso : so = 0 ∨ so = 1) (h64 : σ 0 0 < 64) : Wp (GG X) M_X3_readElement 0 [(2, 42), (0, so), (9, 0)] [] μ (qI 0 fun z μ' => (Fr 42 42 q (q + 8) μ' μ) ∧ (rdL (lEle b n σ so (μ 42 4)) q z μ') ∧ (z = 1 → (0 ≤ μ' 42 4 ∧ μ' 42 4 ≤ n)) ∧ (z = 0 ∨ z = 1) ∧ (z = 1 → μ' 42 0 = μ 42 0 ∧ μ' 42 1 = μ 42 1) ∧ (∀ k : Int, (¬ k = 0 ∧ ¬ k = 1 ∧ ¬ k = 4 ∧ ¬ k = 5 ∧ ¬ k = 6) → μ' 42 k = μ 42 k) ∧ (RDc b n q μ')) := by
  have hn := hR.n
  have hq := hR.at
  have hbb := hR.bb
  have hok := hC.ok
  have hPI := hC.pi hq
  refine w_aload_n dX3_readElement_0 rfl rfl (by first | decide | omega) ?_
  refine w_callVI (o := 42) (ci := 3) (as := []) (rest := []) (k := 0) fX3_readElement_1 rfl rfl rfl rfl rfl rfl rfl rfl (Nat.le_of_ble_eq_true rfl) (s_X3_takeKind X b n q μ hR (by first | omega | assumption)) (fun xK μK hμK => ?_)
  obtain ⟨hFK, hz_K, h6_K, ha_K, hz01_K, h01_K, hf_K, hR_K⟩ := hμK
  refine w_if_ne (tgt := 9) dX3_readElement_4 rfl (R32.in (by omega)) (fun c4 => ?_) (fun c4 => ?_)
  · skip
    have hK := hz_K.resolve_right (fun q9 => by omega)
    have hk9 := nK_z hK.2.1
    have hk4 : (nK b n (μ 42 4)).2.2.1 = 4 ∨ (nK b n (μ 42 4)).2.2.1 = 8 ∨ (nK b n (μ 42 4)).2.2.1 = 16 ∨ (nK b n (μ 42 4)).2.2.1 = 32 := by rw [hk9.2.2]; exact hk9.2.1
    have hbk := bok_r (nK b n (μ 42 4)).2.2.1
    have hat1 := ha_K hK.1
    have ha1 : 0 ≤ (nK b n (μ 42 4)).2.2.2 ∧ (nK b n (μ 42 4)).2.2.2 ≤ n := by rw [← hK.2.2.2]; exact hat1
    have hCK : CPS σ q μK := CPS.cg hC (fun o h1 => hFK.at (by omega) (by omega))
    refine w_aload_n dX3_readElement_9 rfl rfl (by first | decide | omega) ?_
    refine w_getIx (o := 42) (f := 5) (x := (nK b n (μ 42 4)).2.2.1) fX3_readElement_10 rfl rfl (Nat.le_of_ble_eq_true rfl) rfl hK.2.2.1 ?_
    refine w_istore_n (ls' := [(2, 42), (0, so), (0, (nK b n (μ 42 4)).2.2.1)]) dX3_readElement_13 rfl (Nat.le_of_ble_eq_true rfl) rfl rfl ?_
    refine w_aload_n dX3_readElement_14 rfl rfl (by first | decide | omega) ?_
    refine w_getDx (o := 42) (f := 7) (x := q) fX3_readElement_15 rfl rfl rfl rfl hR_K.pq ?_
    refine w_iload_n dX3_readElement_18 rfl rfl ?_
    refine w_callVP (o := (q).toNat) (ci := 2) (as := [(0, (nK b n (μ 42 4)).2.2.1)]) (rest := []) (k := 0) fX3_readElement_19 rfl (by omega) (pSh0 rfl rfl (by assumption)) rfl rfl rfl rfl rfl (Nat.le_of_ble_eq_true rfl) (s_X2_fits X q ((nK b n (μ 42 4)).2.2.1) μ μK (fun o h1 => (hFK.at (by omega) (by omega))) hPI (by first | omega | assumption)) ?_
    refine Wp.topE (b := am_b (tS σ % mlS σ + lok (nK b n (μ 42 4)).2.2.1 ≤ mlS σ)) (by rw [hC.tn, hC.ml]) ?_
    refine w_if_ne (tgt := 35) dX3_readElement_22 rfl (R32.in (by have := am_b_r ((tS σ % mlS σ + lok (nK b n (μ 42 4)).2.2.1 ≤ mlS σ)); omega)) (fun c22 => ?_) (fun c22 => ?_)
    · skip
      replace c22 := am_b1 c22
      refine w_iload_n dX3_readElement_35 rfl rfl ?_
      refine w_if_eq (tgt := 48) dX3_readElement_36 rfl (R32.in (by omega)) (fun c36 => ?_) (fun c36 => ?_)
      · skip
        refine w_aload_n dX3_readElement_48 rfl rfl (by first | decide | omega) ?_
        refine w_getDx (o := 42) (f := 7) (x := q) fX3_readElement_49 rfl rfl rfl rfl hR_K.pq ?_
        refine w_iload_n dX3_readElement_52 rfl rfl ?_
        refine w_iload_n dX3_readElement_53 rfl rfl ?_
        refine w_iload_n dX3_readElement_54 rfl rfl ?_
        refine w_if_eq (tgt := 65) dX3_readElement_55 rfl (R32.in (by omega)) (fun c55 => ?_) (fun c55 => ?_)
        · skip
          refine w_iconst dX3_readElement_65 ?_
          refine w_callVV (o := (q).toNat) (ci := 2) (as := [(0, so), (0, (nK b n (μ 42 4)).2.2.1), (0, 0)]) (rest := []) (k := 2) fX3_readElement_66 rfl (by omega) (pSh0 rfl rfl (by assumption)) rfl rfl rfl rfl rfl (Nat.le_of_ble_eq_true rfl) (s_X2_add X σ q so ((nK b n (μ 42 4)).2.2.1) 0 μK (CPS.cg hC (fun o h1 => (hFK.at (by omega) (by omega)))) (by first | omega | assumption) (by first | omega | assumption) hk4 hso (by omega)) (fun μA hμA => ?_)
          obtain ⟨hFA, hc_A⟩ := hμA
          have hcp := hc_A
          refine w_iconst dX3_readElement_69 ?_
          exact w_zretI dX3_readElement_70 rfl (Or.inr rfl) ⟨((hFA.wd (by omega) (by omega)).tr (hFK.wd (by omega) (by omega))), (by first | (exfalso; omega) | (subst c36; exact rdL_ok (by unfold lEle; rw [if_neg (fun q9 => q9 hK.2.1), if_neg (fun q9 => q9 c22), if_pos rfl]) rfl hcp ((congrFun (hFA.at (by omega) (by omega)) 4).trans hK.2.2.2)) | (have e9 : so = 1 := (by omega); subst e9; exact rdL_ok (by unfold lEle; rw [if_neg (fun q9 => q9 hK.2.1), if_neg (fun q9 => q9 c22), if_neg c36, if_neg (fun q9 => q9 hP.2.1)]) rfl hcp ((congrFun (hFA.at (by omega) (by omega)) 4).trans hP.2.2.2))), (by first | (intro q9; omega) | (intro q9; rw [hFA.at (o := 42) (by omega) (by omega)]; first | exact ha_P hP.1 | exact hat1)), (by omega), (by first | exact fun _ => ⟨(congrFun (hFA.at (by omega) (by omega)) 0).trans ((h01_P hP.1).1.trans (h01_K hK.1).1), (congrFun (hFA.at (by omega) (by omega)) 1).trans ((h01_P hP.1).2.trans (h01_K hK.1).2)⟩ | exact fun _ => ⟨(congrFun (hFA.at (by omega) (by omega)) 0).trans (h01_K hK.1).1, (congrFun (hFA.at (by omega) (by omega)) 1).trans (h01_K hK.1).2⟩), (fun k h1 => ((congrFun (hFA.at (by omega) (by omega)) _).trans (hf_K k (by omega)))), (RDc.cg2 hR_K (fun o h1 => (hFA.at (by omega) (by omega))) (fun k h1 => (congrFun (hFA.at (by omega) (by omega)) _)))⟩
        · skip
          refine w_aload_n dX3_readElement_58 rfl rfl (by first | decide | omega) ?_
          refine w_getIx (o := 42) (f := 5) (x := (nK b n (μ 42 4)).2.2.1) fX3_readElement_59 rfl rfl (Nat.le_of_ble_eq_true rfl) rfl hK.2.2.1 ?_
          refine w_goto (tgt := 66) dX3_readElement_62 rfl ?_
          refine w_callVV (o := (q).toNat) (ci := 2) (as := [(0, so), (0, (nK b n (μ 42 4)).2.2.1), (0, (nK b n (μ 42 4)).2.2.1)]) (rest := []) (k := 2) fX3_readElement_66 rfl (by omega) (pSh0 rfl rfl (by assumption)) rfl rfl rfl rfl rfl (Nat.le_of_ble_eq_true rfl) (s_X2_add X σ q so ((nK b n (μ 42 4)).2.2.1) ((nK b n (μ 42 4)).2.2.1) μK (CPS.cg hC (fun o h1 => (hFK.at (by omega) (by omega)))) (by first | omega | assumption) (by first | omega | assumption) hk4 hso (by omega)) (fun μA hμA => ?_)
          obtain ⟨hFA, hc_A⟩ := hμA
          have hcp := hc_A
          refine w_iconst dX3_readElement_69 ?_
          exact w_zretI dX3_readElement_70 rfl (Or.inr rfl) ⟨((hFA.wd (by omega) (by omega)).tr (hFK.wd (by omega) (by omega))), (by first | (exfalso; omega) | (subst c36; exact rdL_ok (by unfold lEle; rw [if_neg (fun q9 => q9 hK.2.1), if_neg (fun q9 => q9 c22), if_pos rfl]) rfl hcp ((congrFun (hFA.at (by omega) (by omega)) 4).trans hK.2.2.2)) | (have e9 : so = 1 := (by omega); subst e9; exact rdL_ok (by unfold lEle; rw [if_neg (fun q9 => q9 hK.2.1), if_neg (fun q9 => q9 c22), if_neg c36, if_neg (fun q9 => q9 hP.2.1)]) rfl hcp ((congrFun (hFA.at (by omega) (by omega)) 4).trans hP.2.2.2))), (by first | (intro q9; omega) | (intro q9; rw [hFA.at (o := 42) (by omega) (by omega)]; first | exact ha_P hP.1 | exact hat1)), (by omega), (by first | exact fun _ => ⟨(congrFun (hFA.at (by omega) (by omega)) 0).trans ((h01_P hP.1).1.trans (h01_K hK.1).1), (congrFun (hFA.at (by omega) (by omega)) 1).trans ((h01_P hP.1).2.trans (h01_K hK.1).2)⟩ | exact fun _ => ⟨(congrFun (hFA.at (by omega) (by omega)) 0).trans (h01_K hK.1).1, (congrFun (hFA.at (by omega) (by omega)) 1).trans (h01_K hK.1).2⟩), (fun k h1 => ((congrFun (hFA.at (by omega) (by omega)) _).trans (hf_K k (by omega)))), (RDc.cg2 hR_K (fun o h1 => (hFA.at (by omega) (by omega))) (fun k h1 => (congrFun (hFA.at (by omega) (by omega)) _)))⟩
      · skip
        refine w_aload_n dX3_readElement_39 rfl rfl (by first | decide | omega) ?_
        refine w_callVI (o := 42) (ci := 3) (as := []) (rest := []) (k := 2) fX3_readElement_40 rfl rfl rfl rfl rfl rfl rfl rfl (Nat.le_of_ble_eq_true rfl) (s_X3_takePosition X b n q μK hR_K hat1) (fun xP μP hμP => ?_)
        obtain ⟨hFP, hz_P, ha_P, hz01_P, h01_P, hf_P, hR_P⟩ := hμP
        rw [hK.2.2.2] at hz_P
        refine w_if_ne (tgt := 48) dX3_readElement_43 rfl (R32.in (by omega)) (fun c43 => ?_) (fun c43 => ?_)
        · skip
          have hP := hz_P.resolve_right (fun q9 => by omega)
          have hp9 := nP_z ha1.2 hP.2.1
          refine w_aload_n dX3_readElement_48 rfl rfl (by first | decide | omega) ?_
          refine w_getDx (o := 42) (f := 7) (x := q) fX3_readElement_49 rfl rfl rfl rfl hR_P.pq ?_
          refine w_iload_n dX3_readElement_52 rfl rfl ?_
          refine w_iload_n dX3_readElement_53 rfl rfl ?_
          refine w_iload_n dX3_readElement_54 rfl rfl ?_
          refine w_if_eq (tgt := 65) dX3_readElement_55 rfl (R32.in (by omega)) (fun c55 => ?_) (fun c55 => ?_)
          · skip
            refine w_iconst dX3_readElement_65 ?_
            refine w_callVV (o := (q).toNat) (ci := 2) (as := [(0, so), (0, (nK b n (μ 42 4)).2.2.1), (0, 0)]) (rest := []) (k := 2) fX3_readElement_66 rfl (by omega) (pSh0 rfl rfl (by assumption)) rfl rfl rfl rfl rfl (Nat.le_of_ble_eq_true rfl) (s_X2_add X σ q so ((nK b n (μ 42 4)).2.2.1) 0 μP (CPS.cg hC (fun o h1 => ((hFP.at (by omega) (by omega)).trans (hFK.at (by omega) (by omega))))) (by first | omega | assumption) (by first | omega | assumption) hk4 hso (by omega)) (fun μA hμA => ?_)
            obtain ⟨hFA, hc_A⟩ := hμA
            have hcp := hc_A
            refine w_iconst dX3_readElement_69 ?_
            exact w_zretI dX3_readElement_70 rfl (Or.inr rfl) ⟨((hFA.wd (by omega) (by omega)).tr ((hFP.wd (by omega) (by omega)).tr (hFK.wd (by omega) (by omega)))), (by first | (exfalso; omega) | (subst c36; exact rdL_ok (by unfold lEle; rw [if_neg (fun q9 => q9 hK.2.1), if_neg (fun q9 => q9 c22), if_pos rfl]) rfl hcp ((congrFun (hFA.at (by omega) (by omega)) 4).trans hK.2.2.2)) | (have e9 : so = 1 := (by omega); subst e9; exact rdL_ok (by unfold lEle; rw [if_neg (fun q9 => q9 hK.2.1), if_neg (fun q9 => q9 c22), if_neg c36, if_neg (fun q9 => q9 hP.2.1)]) rfl hcp ((congrFun (hFA.at (by omega) (by omega)) 4).trans hP.2.2.2))), (by first | (intro q9; omega) | (intro q9; rw [hFA.at (o := 42) (by omega) (by omega)]; first | exact ha_P hP.1 | exact hat1)), (by omega), (by first | exact fun _ => ⟨(congrFun (hFA.at (by omega) (by omega)) 0).trans ((h01_P hP.1).1.trans (h01_K hK.1).1), (congrFun (hFA.at (by omega) (by omega)) 1).trans ((h01_P hP.1).2.trans (h01_K hK.1).2)⟩ | exact fun _ => ⟨(congrFun (hFA.at (by omega) (by omega)) 0).trans (h01_K hK.1).1, (congrFun (hFA.at (by omega) (by omega)) 1).trans (h01_K hK.1).2⟩), (fun k h1 => ((congrFun (hFA.at (by omega) (by omega)) _).trans ((hf_P k (by omega)).trans (hf_K k (by omega))))), (RDc.cg2 hR_P (fun o h1 => (hFA.at (by omega) (by omega))) (fun k h1 => (congrFun (hFA.at (by omega) (by omega)) _)))⟩
          · skip
            refine w_aload_n dX3_readElement_58 rfl rfl (by first | decide | omega) ?_
            refine w_getIx (o := 42) (f := 5) (x := (nP b n (nK b n (μ 42 4)).2.2.2).2.2.1) fX3_readElement_59 rfl rfl (Nat.le_of_ble_eq_true rfl) rfl hP.2.2.1 ?_
            refine w_goto (tgt := 66) dX3_readElement_62 rfl ?_
            refine w_callVV (o := (q).toNat) (ci := 2) (as := [(0, so), (0, (nK b n (μ 42 4)).2.2.1), (0, (nP b n (nK b n (μ 42 4)).2.2.2).2.2.1)]) (rest := []) (k := 2) fX3_readElement_66 rfl (by omega) (pSh0 rfl rfl (by assumption)) rfl rfl rfl rfl rfl (Nat.le_of_ble_eq_true rfl) (s_X2_add X σ q so ((nK b n (μ 42 4)).2.2.1) ((nP b n (nK b n (μ 42 4)).2.2.2).2.2.1) μP (CPS.cg hC (fun o h1 => ((hFP.at (by omega) (by omega)).trans (hFK.at (by omega) (by omega))))) (by first | omega | assumption) (by first | omega | assumption) hk4 hso (by omega)) (fun μA hμA => ?_)
            obtain ⟨hFA, hc_A⟩ := hμA
            have hcp := hc_A
            refine w_iconst dX3_readElement_69 ?_
            exact w_zretI dX3_readElement_70 rfl (Or.inr rfl) ⟨((hFA.wd (by omega) (by omega)).tr ((hFP.wd (by omega) (by omega)).tr (hFK.wd (by omega) (by omega)))), (by first | (exfalso; omega) | (subst c36; exact rdL_ok (by unfold lEle; rw [if_neg (fun q9 => q9 hK.2.1), if_neg (fun q9 => q9 c22), if_pos rfl]) rfl hcp ((congrFun (hFA.at (by omega) (by omega)) 4).trans hK.2.2.2)) | (have e9 : so = 1 := (by omega); subst e9; exact rdL_ok (by unfold lEle; rw [if_neg (fun q9 => q9 hK.2.1), if_neg (fun q9 => q9 c22), if_neg c36, if_neg (fun q9 => q9 hP.2.1)]) rfl hcp ((congrFun (hFA.at (by omega) (by omega)) 4).trans hP.2.2.2))), (by first | (intro q9; omega) | (intro q9; rw [hFA.at (o := 42) (by omega) (by omega)]; first | exact ha_P hP.1 | exact hat1)), (by omega), (by first | exact fun _ => ⟨(congrFun (hFA.at (by omega) (by omega)) 0).trans ((h01_P hP.1).1.trans (h01_K hK.1).1), (congrFun (hFA.at (by omega) (by omega)) 1).trans ((h01_P hP.1).2.trans (h01_K hK.1).2)⟩ | exact fun _ => ⟨(congrFun (hFA.at (by omega) (by omega)) 0).trans (h01_K hK.1).1, (congrFun (hFA.at (by omega) (by omega)) 1).trans (h01_K hK.1).2⟩), (fun k h1 => ((congrFun (hFA.at (by omega) (by omega)) _).trans ((hf_P k (by omega)).trans (hf_K k (by omega))))), (RDc.cg2 hR_P (fun o h1 => (hFA.at (by omega) (by omega))) (fun k h1 => (congrFun (hFA.at (by omega) (by omega)) _)))⟩
        · skip
          have hP := hz_P.resolve_left (fun q9 => by omega)
          refine w_iconst dX3_readElement_46 ?_
          exact w_zretI dX3_readElement_47 rfl (Or.inl rfl) ⟨((hFP.wd (by omega) (by omega)).tr (hFK.wd (by omega) (by omega))), (by exact rdL_no (by unfold lEle; rw [if_neg (fun q9 => q9 hK.2.1), if_neg (fun q9 => q9 c22), if_neg c36, if_pos hP.2.1]) hP.2.1 rfl hP.2.2.1 hP.2.2.2), (by first | (intro q9; omega) | (intro q9; rw [hFA.at (o := 42) (by omega) (by omega)]; first | exact ha_P hP.1 | exact hat1)), (by omega), (by intro q9; omega), (fun k h1 => ((hf_P k (by omega)).trans (hf_K k (by omega)))), hR_P⟩
    · skip
      replace c22 := am_b0 c22
      refine w_aload_n dX3_readElement_25 rfl rfl (by first | decide | omega) ?_
      refine w_iconst dX3_readElement_26 ?_
      refine w_aload_n dX3_readElement_27 rfl rfl (by first | decide | omega) ?_
      refine w_getIx (o := 42) (f := 6) (x := (sk b n (μ 42 4))) fX3_readElement_28 rfl rfl (Nat.le_of_ble_eq_true rfl) rfl (h6_K hK.1) ?_
      refine w_callVI (o := 42) (ci := 3) (as := [(0, 5), (0, (sk b n (μ 42 4)))]) (rest := []) (k := 0) fX3_readElement_31 rfl rfl rfl rfl rfl rfl rfl rfl (Nat.le_of_ble_eq_true rfl) (s_X3_fail X 5 (sk b n (μ 42 4)) μK) (fun xF μF hμF => ?_)
      obtain ⟨hFF, hz_F, h0_F, h1_F, hf_F⟩ := hμF
      exact w_zretI dX3_readElement_34 rfl (by omega) ⟨((hFF.wd (by omega) (by omega)).tr (hFK.wd (by omega) (by omega))), (by exact rdL_no (by unfold lEle; rw [if_neg (fun q9 => q9 hK.2.1), if_pos (fun q9 => c22 q9)]) (by omega) hz_F h0_F h1_F), (by first | (intro q9; omega) | (intro q9; rw [hFA.at (o := 42) (by omega) (by omega)]; first | exact ha_P hP.1 | exact hat1)), (by omega), (by intro q9; omega), (fun k h1 => ((hf_F k (by omega)).trans (hf_K k (by omega)))), (RDc.cg2 hR_K (fun o h1 => (hFF.at (by omega) (by omega))) (fun k h1 => (hf_F _ (by omega))))⟩
  · skip
    have hK := hz_K.resolve_left (fun q9 => by omega)
    refine w_iconst dX3_readElement_7 ?_
    exact w_zretI dX3_readElement_8 rfl (Or.inl rfl) ⟨(hFK.wd (by omega) (by omega)), (by exact rdL_no (by unfold lEle; rw [if_pos hK.2.1]) hK.2.1 rfl hK.2.2.1 hK.2.2.2), (by first | (intro q9; omega) | (intro q9; rw [hFA.at (o := 42) (by omega) (by omega)]; first | exact ha_P hP.1 | exact hat1)), (by omega), (by intro q9; omega), (fun k h1 => (hf_K k (by omega))), hR_K⟩
