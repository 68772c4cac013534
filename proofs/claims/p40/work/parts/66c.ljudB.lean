set_option maxRecDepth 100000 in
set_option maxHeartbeats 4000000 in
theorem s_L_judgedB (G : AG) (D : GDt) (nn : Nat) (L : Nat) (l : Int) (r : Int) (w : Int) (st9 : Int) (al : Int) (μ : Mu) (hlen : (gS G).length = L) (hL : 48 ≤ L ∧ L ≤ 60) (hs45 : (gS G)[45]? = some (20, nn)) (hs46 : (gS G)[46]? = some (20, nn)) (hs47 : (gS G)[47]? = some (20, nn)) (hw : wfm G μ) (hD : LD G D nn μ) (hW : LW D μ) (hlr : (-60 ≤ l ∧ l ≤ 60) ∧ (-60 ≤ r ∧ r ≤ 60) ∧ (-8 ≤ r - l ∧ r - l ≤ 8)) (hst9 : st9 = ssu D (r - l) l (dN D)) (hal9 : al = lsu D (r - l) l (dN D)) (hal : alw D (r - l) l) : Gx (xK G M_L_judged 1 4 (judP D l r L G μ)) G M_L_judged 0 0 381 [(3, 13), (2, 45), (2, 47), (2, 46), (0, l), (0, r), (0, dN D), (1, spn D), (9, 0), (1, st9), (9, 0), (1, al), (9, 0), (0, w), (1, slp D (r - l)), (9, 0), (9, 0), (9, 0), (9, 0), (9, 0), (9, 0), (9, 0), (9, 0), (9, 0), (9, 0)] [] μ := by
  have hok := hD.ok
  have hn := hok.n
  have hnn := hD.n_n
  have hkn := hD.kn
  have hsp := hok.sp
  have hk4 := hkn.2
  refine x_lconst (v := 0) dL_judged_381 (by decide) ?_
  refine x_lstore (ls' := [(3, 13), (2, 45), (2, 47), (2, 46), (0, l), (0, r), (0, dN D), (1, spn D), (9, 0), (1, st9), (9, 0), (1, al), (9, 0), (0, w), (1, slp D (r - l)), (9, 0), (1, 0), (9, 0), (9, 0), (9, 0), (9, 0), (9, 0), (9, 0), (9, 0), (9, 0)]) dL_judged_382 (Nat.le_of_ble_eq_true rfl) rfl rfl ?_
  refine x_iconst dL_judged_384 ?_
  refine x_istore (ls' := [(3, 13), (2, 45), (2, 47), (2, 46), (0, l), (0, r), (0, dN D), (1, spn D), (9, 0), (1, st9), (9, 0), (1, al), (9, 0), (0, w), (1, slp D (r - l)), (9, 0), (1, 0), (9, 0), (0, 0), (9, 0), (9, 0), (9, 0), (9, 0), (9, 0), (9, 0)]) dL_judged_385 (Nat.le_of_ble_eq_true rfl) rfl rfl ?_
  have hL387 : ∀ (n387 : Nat) (sf : Int) (e : Int), (2 - e).toNat = n387 → (0 ≤ e ∧ e ≤ 2) → (0 ≤ sf ∧ sf ≤ 75 * e) → (sf = stfE D l r e) → Gx (xK G M_L_judged 1 4 (judP D l r L G μ)) G M_L_judged 0 0 387 [(3, 13), (2, 45), (2, 47), (2, 46), (0, l), (0, r), (0, dN D), (1, spn D), (9, 0), (1, st9), (9, 0), (1, al), (9, 0), (0, w), (1, slp D (r - l)), (9, 0), (1, sf), (9, 0), (0, e), (9, 0), (9, 0), (9, 0), (9, 0), (9, 0), (9, 0)] [] μ := by
    intro n387
    induction n387 using Nat.strongRecOn with
    | ind n387 ih387 =>
      intro sf e hn387 he0 hsfr hsf
      refine x_iload dL_judged_387 rfl ?_
      refine x_iconst dL_judged_389 ?_
      refine x_icmp_ge (tgt := 577) dL_judged_390 rfl (R32.in (by omega)) (R32.in (by decide)) (fun c390 => ?_) (fun c390 => ?_)
      · skip
        have hll : ((L : Nat) : Int) = ((gS G).length : Int) := (by rw [hlen])
        refine x_iconst dL_judged_577 ?_
        refine x_newaL (N := 4) xK_A ⟨show 0 + 1 ≤ 1 by omega, show 0 + 4 ≤ 4 by omega⟩ dL_judged_578 k_182 rfl (by decide) hw (by rw [hlen]; exact ⟨nt_no (by decide), ⟨fun _ => (by omega), ⟨fun _ => (by omega), ⟨fun _ => (by omega), ⟨nt_no (by decide), ⟨nt_no (by decide), ⟨nt_no (by decide), ⟨nt_no (by decide), ⟨nt_no (by decide), ⟨nt_no (by decide), ⟨nt_no (by decide), ⟨nt_no (by decide), ⟨nt_no (by decide), ⟨nt_no (by decide), ⟨nt_no (by decide), ⟨nt_no (by decide), ⟨nt_no (by decide), ⟨nt_no (by decide), ⟨nt_no (by decide), ⟨nt_no (by decide), ⟨nt_no (by decide), ⟨nt_no (by decide), ⟨nt_no (by decide), ⟨nt_no (by decide), ⟨nt_no (by decide), trivial⟩⟩⟩⟩⟩⟩⟩⟩⟩⟩⟩⟩⟩⟩⟩⟩⟩⟩⟩⟩⟩⟩⟩⟩⟩) trivial (fun q => ?_)
        rw [← hll]
        have hsL : (gS (ax G (23, 4) q))[L]? = some (23, 4) := (by have h9 := @ax_sh G (23, 4) q; rw [hlen] at h9; exact h9)
        have hm0 : ∀ o : Int, o ≠ (L : Int) → am_nw μ (gS G).length o = μ o := (fun o ho => am_nw_o (by omega))
        refine Gx.mu (fun μ0 hμ0 => ?_)
        rw [← hμ0] at hm0
        clear hμ0
        refine x_dup dL_judged_580 (by simp) ?_
        refine x_iconst dL_judged_581 ?_
        refine x_lload dL_judged_582 rfl ?_
        refine x_lload dL_judged_584 rfl ?_
        have hsr := ssu_r (s := r - l) (l := l) (i := dN D) hok (by omega) (by omega) ⟨by omega, by omega⟩
        have hss := hok.sp
        refine x_ldivP dL_judged_586 (by omega) ?_
        refine x_last (o := L) (n := 4) dL_judged_587 rfl hsL (Nat.le_of_ble_eq_true rfl) (by decide) (by decide) ?_
        refine x_dup dL_judged_588 (by simp) ?_
        refine x_iconst dL_judged_589 ?_
        refine x_lload dL_judged_590 rfl ?_
        refine x_last (o := L) (n := 4) dL_judged_592 rfl hsL (Nat.le_of_ble_eq_true rfl) (by decide) (by decide) ?_
        refine x_dup dL_judged_593 (by simp) ?_
        refine x_iconst dL_judged_594 ?_
        refine x_lload dL_judged_595 rfl ?_
        refine x_last (o := L) (n := 4) dL_judged_597 rfl hsL (Nat.le_of_ble_eq_true rfl) (by decide) (by decide) ?_
        refine x_dup dL_judged_598 (by simp) ?_
        refine x_iconst dL_judged_599 ?_
        refine x_lload dL_judged_600 rfl ?_
        refine x_last (o := L) (n := 4) dL_judged_602 rfl hsL (Nat.le_of_ble_eq_true rfl) (by decide) (by decide) ?_
        refine x_aret dL_judged_603 rfl (Or.inr ⟨_, rfl⟩) ⟨by omega, by omega⟩ (Xt.ax G (23, 4) q) (Or.inr ⟨hal, q, rfl, rfl, ⟨⟨?_, ?_⟩, ⟨?_, ?_⟩⟩, fun o ho => ?_⟩)
        · rw [am_up_nk (by decide), am_up_nk (by decide), am_up_nk (by decide), am_up_at]; unfold stm; rw [hst9]
        · rw [am_up_nk (by decide), am_up_nk (by decide), am_up_at]
        · rw [am_up_nk (by decide), am_up_at, hsf]; rw [show e = 2 by omega]; rfl
        · rw [am_up_at, hal9]; exact lsu_e D (r - l) l (by omega)
        · rw [am_up_o ho, am_up_o ho, am_up_o ho, am_up_o ho]; exact hm0 o ho
      · skip
        refine x_iload dL_judged_393 rfl ?_
        have hJ395_1 : ∀ z1_0 : Int, z1_0 = (if ¬ e = 0 then (dN D) - 1 else 0) → Gx (xK G M_L_judged 1 4 (judP D l r L G μ)) G M_L_judged 0 0 406 [(3, 13), (2, 45), (2, 47), (2, 46), (0, l), (0, r), (0, dN D), (1, spn D), (9, 0), (1, st9), (9, 0), (1, al), (9, 0), (0, w), (1, slp D (r - l)), (9, 0), (1, sf), (9, 0), (0, e), (9, 0), (9, 0), (9, 0), (9, 0), (9, 0), (9, 0)] [(0, z1_0)] μ := by
          intro z1_0 hz1_0
          refine Gx.topE (b := eI D e) (by unfold eI; omega) ?_
          refine x_istore (ls' := [(3, 13), (2, 45), (2, 47), (2, 46), (0, l), (0, r), (0, dN D), (1, spn D), (9, 0), (1, st9), (9, 0), (1, al), (9, 0), (0, w), (1, slp D (r - l)), (9, 0), (1, sf), (9, 0), (0, e), (0, eI D e), (9, 0), (9, 0), (9, 0), (9, 0), (9, 0)]) dL_judged_406 (Nat.le_of_ble_eq_true rfl) rfl rfl ?_
          refine x_iload dL_judged_408 rfl ?_
          have hJ410_2 : ∀ z2_0 : Int, z2_0 = (if ¬ e = 0 then r else l) → Gx (xK G M_L_judged 1 4 (judP D l r L G μ)) G M_L_judged 0 0 420 [(3, 13), (2, 45), (2, 47), (2, 46), (0, l), (0, r), (0, dN D), (1, spn D), (9, 0), (1, st9), (9, 0), (1, al), (9, 0), (0, w), (1, slp D (r - l)), (9, 0), (1, sf), (9, 0), (0, e), (0, eI D e), (9, 0), (9, 0), (9, 0), (9, 0), (9, 0)] [(0, z2_0)] μ := by
            intro z2_0 hz2_0
            refine Gx.topE (b := eO l r e) (by unfold eO; omega) ?_
            refine x_istore (ls' := [(3, 13), (2, 45), (2, 47), (2, 46), (0, l), (0, r), (0, dN D), (1, spn D), (9, 0), (1, st9), (9, 0), (1, al), (9, 0), (0, w), (1, slp D (r - l)), (9, 0), (1, sf), (9, 0), (0, e), (0, eI D e), (0, eO l r e), (9, 0), (9, 0), (9, 0), (9, 0)]) dL_judged_420 (Nat.le_of_ble_eq_true rfl) rfl rfl ?_
            refine x_iload dL_judged_422 rfl ?_
            have hJ424_3 : ∀ z3_0 : Int, z3_0 = (if ¬ e = 0 then l else r) → Gx (xK G M_L_judged 1 4 (judP D l r L G μ)) G M_L_judged 0 0 434 [(3, 13), (2, 45), (2, 47), (2, 46), (0, l), (0, r), (0, dN D), (1, spn D), (9, 0), (1, st9), (9, 0), (1, al), (9, 0), (0, w), (1, slp D (r - l)), (9, 0), (1, sf), (9, 0), (0, e), (0, eI D e), (0, eO l r e), (9, 0), (9, 0), (9, 0), (9, 0)] [(0, z3_0)] μ := by
              intro z3_0 hz3_0
              refine Gx.topE (b := eT l r e) (by unfold eT; omega) ?_
              refine x_istore (ls' := [(3, 13), (2, 45), (2, 47), (2, 46), (0, l), (0, r), (0, dN D), (1, spn D), (9, 0), (1, st9), (9, 0), (1, al), (9, 0), (0, w), (1, slp D (r - l)), (9, 0), (1, sf), (9, 0), (0, e), (0, eI D e), (0, eO l r e), (0, eT l r e), (9, 0), (9, 0), (9, 0)]) dL_judged_434 (Nat.le_of_ble_eq_true rfl) rfl rfl ?_
              exact s_L_judgedC G D nn L l r w st9 al sf e μ hlen hL hs45 hs46 hs47 hw hD hW hlr ⟨he0.1, by omega⟩ hsfr (fun m hm => ih387 _ (by omega) m (e + 1) rfl (by omega) (by have := eco_fr D (eI D e) (eO l r e) (eT l r e - eO l r e) hok (eI_r hok e); omega) (by rw [stfE_s (by omega), ← hsf]; exact hm))
            refine x_if_ne (tgt := 432) dL_judged_424 rfl (R32.in (by omega)) (fun c424 => ?_) (fun c424 => ?_)
            · skip
              refine x_iload dL_judged_432 rfl ?_
              exact hJ424_3 _ (by first | omega | simp [*])
            · skip
              refine x_iload dL_judged_427 rfl ?_
              refine x_goto (tgt := 434) dL_judged_429 rfl ?_
              exact hJ424_3 _ (by first | omega | simp [*])
          refine x_if_ne (tgt := 418) dL_judged_410 rfl (R32.in (by omega)) (fun c410 => ?_) (fun c410 => ?_)
          · skip
            refine x_iload dL_judged_418 rfl ?_
            exact hJ410_2 _ (by first | omega | simp [*])
          · skip
            refine x_iload dL_judged_413 rfl ?_
            refine x_goto (tgt := 420) dL_judged_415 rfl ?_
            exact hJ410_2 _ (by first | omega | simp [*])
        refine x_if_ne (tgt := 402) dL_judged_395 rfl (R32.in (by omega)) (fun c395 => ?_) (fun c395 => ?_)
        · skip
          refine x_iload dL_judged_402 rfl ?_
          refine x_iconst dL_judged_404 ?_
          refine x_isub dL_judged_405 ?_
          exact hJ395_1 _ (by first | omega | simp [*])
        · skip
          refine x_iconst dL_judged_398 ?_
          refine x_goto (tgt := 406) dL_judged_399 rfl ?_
          exact hJ395_1 _ (by first | omega | simp [*])
  exact hL387 _ 0 0 rfl ⟨by decide, by decide⟩ (by decide) rfl
