/-! ===== A piece alone: what its constructor's clear() leaves ===== -/
def am_SHp : List (Nat × Nat) := [(2, 17), (20, 12), (20, 4), (20, 64), (21, 64), (20, 64), (20, 64), (20, 64), (20, 64), (20, 32), (20, 32)]
def am_RFpl : List Int := [-1, -1, -1, -1, -1, 1, 2, -1, 3, 4, 5, 6, 7, 8, -1, 9, 10]
def am_RFp (o k : Nat) : Int := if o = 0 then am_RFpl.getD k (-1) else -1
def GP (X : AX) : AG := (X.1, X.2.1, X.2.2.1, X.2.2.2.1, am_SHp, am_RFp, X.2.2.2.2)

set_option maxRecDepth 100000 in
set_option maxHeartbeats 4000000 in
theorem s_X2_setMetre_s (X : AX) (v : Int) (u : Int) (μ : Mu) (hv : 1 ≤ v ∧ v ≤ 12) (hu : u = 2 ∨ u = 4 ∨ u = 8) : Wp (GP X) M_X2_setMetre 0 [(2, 0), (0, v), (0, u), (9, 0), (9, 0)] [] μ (qV fun μ' => (Fr 0 1 1 0 μ' μ) ∧ (μ' 0 1 = v) ∧ (μ' 0 2 = u) ∧ (μ' 0 4 * evn μ' 0 = v ∧ ∀ k : Int, 0 ≤ k → k < μ' 0 4 → μ' 1 k = evn μ' 0) ∧ (∀ k : Int, (¬ k = 1 ∧ ¬ k = 2 ∧ ¬ k = 4) → μ' 0 k = μ 0 k)) := by
  refine w_aload_n dX2_setMetre_0 rfl rfl (by first | decide | omega) ?_
  refine w_iload_n dX2_setMetre_1 rfl rfl ?_
  refine w_bipush dX2_setMetre_2 (by decide) ?_
  refine w_min fX2_setMetre_4 (R32.in (by omega)) (R32.in (by decide)) (Nat.le_of_ble_eq_true rfl) ?_
  refine w_putI (o := 0) (f := 1) fX2_setMetre_7 rfl rfl rfl rfl rfl ?_
  refine w_aload_n dX2_setMetre_10 rfl rfl (by first | decide | omega) ?_
  refine w_iload_n dX2_setMetre_11 rfl rfl ?_
  refine w_putI (o := 0) (f := 2) fX2_setMetre_12 rfl rfl rfl rfl rfl ?_
  refine w_iload_n dX2_setMetre_15 rfl rfl ?_
  refine w_bipush dX2_setMetre_16 (by decide) ?_
  have hJ18_1 : ∀ z1_0 : Int, z1_0 = (if ¬ u = 8 then 1 else (if ¬ (v % 3) = 0 then 1 else 3)) → Wp (GP X) M_X2_setMetre 32 [(2, 0), (0, v), (0, u), (9, 0), (9, 0)] [(0, z1_0)] (am_up (am_up μ 0 1 (min v 12)) 0 2 u) (qV fun μ' => (Fr 0 1 1 0 μ' μ) ∧ (μ' 0 1 = v) ∧ (μ' 0 2 = u) ∧ (μ' 0 4 * evn μ' 0 = v ∧ ∀ k : Int, 0 ≤ k → k < μ' 0 4 → μ' 1 k = evn μ' 0) ∧ (∀ k : Int, (¬ k = 1 ∧ ¬ k = 2 ∧ ¬ k = 4) → μ' 0 k = μ 0 k)) := by
    intro z1_0 hz1_0
    have hz9 : z1_0 = if u = 8 ∧ v % 3 = 0 then 3 else 1 := by omega
    have hz13 : z1_0 = 1 ∨ z1_0 = 3 := by omega
    refine w_istore_n (ls' := [(2, 0), (0, v), (0, u), (0, z1_0), (9, 0)]) dX2_setMetre_32 rfl (Nat.le_of_ble_eq_true rfl) rfl rfl ?_
    refine w_aload_n dX2_setMetre_33 rfl rfl (by first | decide | omega) ?_
    refine w_iconst dX2_setMetre_34 ?_
    refine w_putI (o := 0) (f := 4) fX2_setMetre_35 rfl rfl rfl rfl rfl ?_
    refine w_iconst dX2_setMetre_38 ?_
    refine w_istore (ls' := [(2, 0), (0, v), (0, u), (0, z1_0), (0, 0)]) dX2_setMetre_39 (Nat.le_of_ble_eq_true rfl) rfl rfl ?_
    have hL41 : ∀ (n41 : Nat) (k : Int) (t : Int) (μ1 : Mu), (v - t).toNat = n41 → Fr 0 1 1 0 μ1 μ → ((z1_0 = 1 ∧ t = k) ∨ (z1_0 = 3 ∧ t = 3 * k)) → (0 ≤ k ∧ 0 ≤ t ∧ t ≤ v) → (μ1 0 1 = v) → (μ1 0 2 = u) → (μ1 0 4 = k) → (∀ j : Int, 0 ≤ j → j < k → μ1 1 j = z1_0) → (∀ k : Int, (¬ k = 1 ∧ ¬ k = 2 ∧ ¬ k = 4) → μ1 0 k = μ 0 k) → Wp (GP X) M_X2_setMetre 41 [(2, 0), (0, v), (0, u), (0, z1_0), (0, t)] [] μ1 (qV fun μ' => (Fr 0 1 1 0 μ' μ) ∧ (μ' 0 1 = v) ∧ (μ' 0 2 = u) ∧ (μ' 0 4 * evn μ' 0 = v ∧ ∀ k : Int, 0 ≤ k → k < μ' 0 4 → μ' 1 k = evn μ' 0) ∧ (∀ k : Int, (¬ k = 1 ∧ ¬ k = 2 ∧ ¬ k = 4) → μ' 0 k = μ 0 k)) := by
      intro n41
      induction n41 using Nat.strongRecOn with
      | ind n41 ih41 =>
        intro k t μ1 hn41 hF41 hk hk0 h11 h12 h14 hrow hfA
        refine w_iload dX2_setMetre_41 rfl ?_
        refine w_aload_n dX2_setMetre_43 rfl rfl (by first | decide | omega) ?_
        refine w_getIx (o := 0) (f := 1) (x := v) fX2_setMetre_44 rfl rfl (Nat.le_of_ble_eq_true rfl) rfl h11 ?_
        refine w_icmp_ge (tgt := 79) dX2_setMetre_47 rfl (R32.in (by omega)) (R32.in (by omega)) (fun c47 => ?_) (fun c47 => ?_)
        · skip
          exact w_retV dX2_setMetre_79 rfl ⟨hF41, (h11.trans (by omega)), (h12.trans (by rfl)), (by have he9 : evn μ1 0 = z1_0 := (by unfold evn; rw [h11, h12]; omega); rw [he9, h14]; exact ⟨by rcases hk with q | q <;> rw [q.1] <;> omega, hrow⟩), (fun k h1 => (hfA k (by omega)))⟩
        · skip
          refine w_aload_n dX2_setMetre_50 rfl rfl (by first | decide | omega) ?_
          refine w_getR (o := 0) (x := 1) fX2_setMetre_51 rfl rfl rfl rfl ?_
          refine w_aload_n dX2_setMetre_54 rfl rfl (by first | decide | omega) ?_
          refine w_getIx (o := 0) (f := 4) (x := k) fX2_setMetre_55 rfl rfl (Nat.le_of_ble_eq_true rfl) rfl h14 ?_
          refine w_iload_n dX2_setMetre_58 rfl rfl ?_
          refine w_iast (o := 1) (n := 12) dX2_setMetre_59 rfl rfl (Nat.le_of_ble_eq_true rfl) (by omega) (by omega) ?_
          refine w_aload_n dX2_setMetre_60 rfl rfl (by first | decide | omega) ?_
          refine w_dup dX2_setMetre_61 (by simp) ?_
          refine w_getIx (o := 0) (f := 4) (x := k) fX2_setMetre_62 rfl rfl (Nat.le_of_ble_eq_true rfl) rfl ((congrFun (am_up_o (by first | decide | omega)) _).trans h14) ?_
          refine w_iconst dX2_setMetre_65 ?_
          refine w_iadd dX2_setMetre_66 ?_
          refine w_putI (o := 0) (f := 4) fX2_setMetre_67 rfl rfl rfl rfl rfl ?_
          refine w_iload dX2_setMetre_70 rfl ?_
          refine w_iload_n dX2_setMetre_72 rfl rfl ?_
          refine w_iadd dX2_setMetre_73 ?_
          refine w_istore (ls' := [(2, 0), (0, v), (0, u), (0, z1_0), (0, t + z1_0)]) dX2_setMetre_74 (Nat.le_of_ble_eq_true rfl) rfl rfl ?_
          refine w_goto (tgt := 41) dX2_setMetre_76 rfl ?_
          exact ih41 _ (by omega) (k + 1) (t + z1_0) (am_up (am_up μ1 1 k z1_0) 0 4 (k + 1)) rfl ((hF41.up (by omega)).up (by omega)) (by omega) (by first | omega | assumption) (((am_up_nk (by omega)).trans ((congrFun (am_up_o (by first | decide | omega)) _).trans h11)).trans (by omega)) (((am_up_nk (by omega)).trans ((congrFun (am_up_o (by first | decide | omega)) _).trans h12)).trans (by first | rfl | exact h12)) (am_up_at.trans (by omega)) (fun j h1 h2 => ((congrFun (am_up_o (by omega)) _).trans ((fillr (f := fun _ => z1_0) hrow rfl) j h1 h2))) (fun k h1 => ((am_up_nk (by omega)).trans ((congrFun (am_up_o (by omega)) _).trans (hfA k (by omega)))))
    exact hL41 _ 0 0 (am_up (am_up (am_up μ 0 1 (min v 12)) 0 2 u) 0 4 0) rfl (((Fr.rf.up (by omega)).up (by omega)).up (by omega)) (by omega) (by first | omega | assumption) (((am_up_nk (by omega)).trans ((am_up_nk (by omega)).trans am_up_at)).trans (by omega)) (((am_up_nk (by omega)).trans am_up_at).trans (by first | rfl | exact h12)) (am_up_at.trans (by omega)) (fun j h1 h2 => by omega) (fun k h1 => ((am_up_nk (by omega)).trans ((am_up_nk (by omega)).trans (am_up_nk (by omega)))))
  refine w_icmp_ne (tgt := 31) dX2_setMetre_18 rfl (R32.in (by omega)) (R32.in (by decide)) (fun c18 => ?_) (fun c18 => ?_)
  · skip
    refine w_iconst dX2_setMetre_31 ?_
    exact hJ18_1 _ (by first | omega | simp [*])
  · skip
    refine w_iload_n dX2_setMetre_21 rfl rfl ?_
    refine w_iconst dX2_setMetre_22 ?_
    refine w_iremP dX2_setMetre_23 (by omega) ?_
    refine w_if_ne (tgt := 31) dX2_setMetre_24 rfl (R32.in (by omega)) (fun c24 => ?_) (fun c24 => ?_)
    · skip
      refine w_iconst dX2_setMetre_31 ?_
      exact hJ18_1 _ (by first | omega | simp [*])
    · skip
      refine w_iconst dX2_setMetre_27 ?_
      refine w_goto (tgt := 32) dX2_setMetre_28 rfl ?_
      exact hJ18_1 _ (by first | omega | simp [*])

set_option maxRecDepth 100000 in
set_option maxHeartbeats 4000000 in
theorem s_X2_clear_s (X : AX) (μ : Mu) : Wp (GP X) M_X2_clear 0 [(2, 0)] [] μ (qV fun μ' => (Fr 0 2 1 0 μ' μ) ∧ (CPS S0 0 μ') ∧ (μ' 0 14 = 0)) := by
  refine w_aload_n dX2_clear_0 rfl rfl (by first | decide | omega) ?_
  refine w_iconst dX2_clear_1 ?_
  refine w_putI (o := 0) (f := 0) fX2_clear_2 rfl rfl rfl rfl rfl ?_
  refine w_aload_n dX2_clear_5 rfl rfl (by first | decide | omega) ?_
  refine w_iconst dX2_clear_6 ?_
  refine w_putI (o := 0) (f := 7) fX2_clear_7 rfl rfl rfl rfl rfl ?_
  refine w_aload_n dX2_clear_10 rfl rfl (by first | decide | omega) ?_
  refine w_iconst dX2_clear_11 ?_
  refine w_putI (o := 0) (f := 14) fX2_clear_12 rfl rfl rfl rfl rfl ?_
  refine w_aload_n dX2_clear_15 rfl rfl (by first | decide | omega) ?_
  refine w_bipush dX2_clear_16 (by decide) ?_
  refine w_putI (o := 0) (f := 3) fX2_clear_18 rfl rfl rfl rfl rfl ?_
  refine w_aload_n dX2_clear_21 rfl rfl (by first | decide | omega) ?_
  refine w_getR (o := 0) (x := 2) fX2_clear_22 rfl rfl rfl rfl ?_
  refine w_iconst dX2_clear_25 ?_
  refine w_bipush dX2_clear_26 (by decide) ?_
  refine w_iast (o := 2) (n := 4) dX2_clear_28 rfl rfl (Nat.le_of_ble_eq_true rfl) (by omega) (by omega) ?_
  refine w_aload_n dX2_clear_29 rfl rfl (by first | decide | omega) ?_
  refine w_getR (o := 0) (x := 2) fX2_clear_30 rfl rfl rfl rfl ?_
  refine w_iconst dX2_clear_33 ?_
  refine w_bipush dX2_clear_34 (by decide) ?_
  refine w_iast (o := 2) (n := 4) dX2_clear_36 rfl rfl (Nat.le_of_ble_eq_true rfl) (by omega) (by omega) ?_
  refine w_aload_n dX2_clear_37 rfl rfl (by first | decide | omega) ?_
  refine w_getR (o := 0) (x := 2) fX2_clear_38 rfl rfl rfl rfl ?_
  refine w_iconst dX2_clear_41 ?_
  refine w_bipush dX2_clear_42 (by decide) ?_
  refine w_iast (o := 2) (n := 4) dX2_clear_44 rfl rfl (Nat.le_of_ble_eq_true rfl) (by omega) (by omega) ?_
  refine w_aload_n dX2_clear_45 rfl rfl (by first | decide | omega) ?_
  refine w_getR (o := 0) (x := 2) fX2_clear_46 rfl rfl rfl rfl ?_
  refine w_iconst dX2_clear_49 ?_
  refine w_bipush dX2_clear_50 (by decide) ?_
  refine w_iast (o := 2) (n := 4) dX2_clear_52 rfl rfl (Nat.le_of_ble_eq_true rfl) (by omega) (by omega) ?_
  have hF_μ5 : Fr 0 2 1 0 (am_up (am_up (am_up (am_up (am_up (am_up (am_up (am_up μ 0 0 0) 0 7 0) 0 14 0) 0 3 9) 2 0 24) 2 1 16) 2 2 12) 2 3 9) μ := ((((((((Fr.rf.up (by omega)).up (by omega)).up (by omega)).up (by omega)).up (by omega)).up (by omega)).up (by omega)).up (by omega))
  have h57 : (am_up (am_up (am_up (am_up (am_up (am_up (am_up (am_up μ 0 0 0) 0 7 0) 0 14 0) 0 3 9) 2 0 24) 2 1 16) 2 2 12) 2 3 9) 0 7 = 0 := (((congrFun (am_up_o (by first | decide | omega)) _).trans ((congrFun (am_up_o (by first | decide | omega)) _).trans ((congrFun (am_up_o (by first | decide | omega)) _).trans ((congrFun (am_up_o (by first | decide | omega)) _).trans ((am_up_nk (by omega)).trans ((am_up_nk (by omega)).trans am_up_at)))))).trans (by rfl))
  have h50 : (am_up (am_up (am_up (am_up (am_up (am_up (am_up (am_up μ 0 0 0) 0 7 0) 0 14 0) 0 3 9) 2 0 24) 2 1 16) 2 2 12) 2 3 9) 0 0 = 0 := (((congrFun (am_up_o (by first | decide | omega)) _).trans ((congrFun (am_up_o (by first | decide | omega)) _).trans ((congrFun (am_up_o (by first | decide | omega)) _).trans ((congrFun (am_up_o (by first | decide | omega)) _).trans ((am_up_nk (by omega)).trans ((am_up_nk (by omega)).trans ((am_up_nk (by omega)).trans am_up_at))))))).trans (by rfl))
  have h53 : (am_up (am_up (am_up (am_up (am_up (am_up (am_up (am_up μ 0 0 0) 0 7 0) 0 14 0) 0 3 9) 2 0 24) 2 1 16) 2 2 12) 2 3 9) 0 3 = 9 := (((congrFun (am_up_o (by first | decide | omega)) _).trans ((congrFun (am_up_o (by first | decide | omega)) _).trans ((congrFun (am_up_o (by first | decide | omega)) _).trans ((congrFun (am_up_o (by first | decide | omega)) _).trans am_up_at)))).trans (by rfl))
  have h514 : (am_up (am_up (am_up (am_up (am_up (am_up (am_up (am_up μ 0 0 0) 0 7 0) 0 14 0) 0 3 9) 2 0 24) 2 1 16) 2 2 12) 2 3 9) 0 14 = 0 := (((congrFun (am_up_o (by first | decide | omega)) _).trans ((congrFun (am_up_o (by first | decide | omega)) _).trans ((congrFun (am_up_o (by first | decide | omega)) _).trans ((congrFun (am_up_o (by first | decide | omega)) _).trans ((am_up_nk (by omega)).trans am_up_at))))).trans (by rfl))
  have h5w : ∀ k : Int, 0 ≤ k → k < 4 → (am_up (am_up (am_up (am_up (am_up (am_up (am_up (am_up μ 0 0 0) 0 7 0) 0 14 0) 0 3 9) 2 0 24) 2 1 16) 2 2 12) 2 3 9) 2 k = if k = 0 then 24 else if k = 1 then 16 else if k = 2 then 12 else 9 := (fun k h1 h2 => by rw [up_if, up_if, up_if, up_if]; omega)
  refine Wp.mu (fun μ5 hμ5 => ?_)
  rw [← hμ5] at hF_μ5 h57 h50 h53 h514 h5w
  clear hμ5
  refine w_aload_n dX2_clear_53 rfl rfl (by first | decide | omega) ?_
  refine w_iconst dX2_clear_54 ?_
  refine w_iconst dX2_clear_55 ?_
  refine w_callVV (o := 0) (ci := 2) (as := [(0, 4), (0, 4)]) (rest := []) (k := 2) fX2_clear_56 rfl rfl rfl rfl rfl rfl rfl rfl (Nat.le_of_ble_eq_true rfl) (s_X2_setMetre_s X 4 4 μ5 (by first | omega | assumption) (by first | omega | assumption)) (fun μM hμM => ?_)
  obtain ⟨hFM, h1_M, h2_M, hp4_M, hf_M⟩ := hμM
  exact w_retV dX2_clear_59 rfl ⟨((hFM.wd (by omega) (by omega)).tr hF_μ5), (by exact ⟨SOK_0, ⟨(hf_M 7 (by omega)).trans h57, (hf_M 0 (by omega)).trans h50, h1_M, h2_M, (hf_M 3 (by omega)).trans h53⟩, fun j h1 h2 => by change j < 0 at h2; omega, fun k h1 h2 => (congrFun (hFM.at (by omega) (by omega)) k).trans (h5w k h1 h2), Or.inl ⟨rfl, by rw [h1_M]; exact hp4_M.1, hp4_M.2⟩⟩), (((hf_M _ (by omega)).trans h514).trans (by rfl))⟩
