set_option maxRecDepth 100000 in
set_option maxHeartbeats 4000000 in
theorem s_L_judgedC (G : AG) (D : GDt) (nn : Nat) (L : Nat) (l : Int) (r : Int) (w : Int) (st9 : Int) (al : Int) (sf : Int) (e : Int) (μ : Mu) (hlen : (gS G).length = L) (hL : 48 ≤ L ∧ L ≤ 60) (hs45 : (gS G)[45]? = some (20, nn)) (hs46 : (gS G)[46]? = some (20, nn)) (hs47 : (gS G)[47]? = some (20, nn)) (hw : wfm G μ) (hD : LD G D nn μ) (hW : LW D μ) (hlr : (-60 ≤ l ∧ l ≤ 60) ∧ (-60 ≤ r ∧ r ≤ 60) ∧ (-8 ≤ r - l ∧ r - l ≤ 8)) (he0 : 0 ≤ e ∧ e < 2) (hsfr : 0 ≤ sf ∧ sf ≤ 75 * e) (hkk : ∀ m : Int, m = sf + eco D (eI D e) (eO l r e) (eT l r e - eO l r e) → Gx (xK G M_L_judged 1 4 (judP D l r L G μ)) G M_L_judged 0 0 387 [(3, 13), (2, 45), (2, 47), (2, 46), (0, l), (0, r), (0, dN D), (1, spn D), (9, 0), (1, st9), (9, 0), (1, al), (9, 0), (0, w), (1, slp D (r - l)), (9, 0), (1, m), (9, 0), (0, e + 1), (9, 0), (9, 0), (9, 0), (9, 0), (9, 0), (9, 0)] [] μ) : Gx (xK G M_L_judged 1 4 (judP D l r L G μ)) G M_L_judged 0 0 436 [(3, 13), (2, 45), (2, 47), (2, 46), (0, l), (0, r), (0, dN D), (1, spn D), (9, 0), (1, st9), (9, 0), (1, al), (9, 0), (0, w), (1, slp D (r - l)), (9, 0), (1, sf), (9, 0), (0, e), (0, eI D e), (0, eO l r e), (0, eT l r e), (9, 0), (9, 0), (9, 0)] [] μ := by
  have hok := hD.ok
  have hn := hok.n
  have hnn := hD.n_n
  have hkn := hD.kn
  have hsp := hok.sp
  have hk4 := hkn.2
  have hei := eI_r hok e
  have hbr := hok.br hei
  have hot := eOT l r e
  have hot2 := hot.2 ⟨hlr.1, hlr.2.1⟩
  refine x_iconst dL_judged_436 ?_
  refine x_istore (ls' := [(3, 13), (2, 45), (2, 47), (2, 46), (0, l), (0, r), (0, dN D), (1, spn D), (9, 0), (1, st9), (9, 0), (1, al), (9, 0), (0, w), (1, slp D (r - l)), (9, 0), (1, sf), (9, 0), (0, e), (0, eI D e), (0, eO l r e), (0, eT l r e), (0, 0), (9, 0), (9, 0)]) dL_judged_437 (Nat.le_of_ble_eq_true rfl) rfl rfl ?_
  have hL439 : ∀ (n439 : Nat) (m : Int) (k : Int), (3 - k).toNat = n439 → (0 ≤ k ∧ k ≤ dB D (eI D e)) → (m = sf + ecs D (eI D e) (eO l r e) (eT l r e - eO l r e) k) → Gx (xK G M_L_judged 1 4 (judP D l r L G μ)) G M_L_judged 0 0 439 [(3, 13), (2, 45), (2, 47), (2, 46), (0, l), (0, r), (0, dN D), (1, spn D), (9, 0), (1, st9), (9, 0), (1, al), (9, 0), (0, w), (1, slp D (r - l)), (9, 0), (1, m), (9, 0), (0, e), (0, eI D e), (0, eO l r e), (0, eT l r e), (0, k), (9, 0), (9, 0)] [] μ := by
    intro n439
    induction n439 using Nat.strongRecOn with
    | ind n439 ih439 =>
      intro m k hn439 hk0 hm
      have hmr := ecs_r D (eI D e) (eO l r e) (eT l r e - eO l r e) hk0.1
      have hm2 : -9 ≤ way D (eI D e) * 3 * k ∧ way D (eI D e) * 3 * k ≤ 9 := (by rcases way_r D (eI D e) with q | q <;> rw [q] <;> omega)
      have hm3 := way3 D (eI D e) k
      refine x_iload dL_judged_439 rfl ?_
      refine x_aload_nS dL_judged_441 rfl rfl ?_
      refine x_iload dL_judged_442 rfl ?_
      refine x_callSP (as := [(3, 13), (0, eI D e)]) (rest := [(0, k)]) (k := 0) fL_judged_444.g ⟨Nat.le_of_ble_eq_true rfl, Nat.le_of_ble_eq_true rfl⟩ ⟨show 0 ≤ 1 by omega, show 0 ≤ 4 by omega⟩ xK_A hw rfl rfl rfl rfl rfl (Nat.le_of_ble_eq_true rfl) ⟨nt_no (by decide), ⟨nt_no (by decide), trivial⟩⟩ (by decide) (s_L_kind G (eI D e) μ hk4 (by first | omega | assumption)) ?_
      have hf1 := lkd_r G (eI D e)
      refine Gx.topE (b := dB D (eI D e)) (hD.b hei) ?_
      refine x_icmp_ge (tgt := 571) dL_judged_447 rfl (R32.in (by omega)) (R32.in (by omega)) (fun c447 => ?_) (fun c447 => ?_)
      · skip
        refine x_iinc (ls' := [(3, 13), (2, 45), (2, 47), (2, 46), (0, l), (0, r), (0, dN D), (1, spn D), (9, 0), (1, st9), (9, 0), (1, al), (9, 0), (0, w), (1, slp D (r - l)), (9, 0), (1, m), (9, 0), (0, e + 1), (0, eI D e), (0, eO l r e), (0, eT l r e), (0, k), (9, 0), (9, 0)]) dL_judged_571 rfl (Nat.le_of_ble_eq_true rfl) rfl rfl ?_
        refine x_goto (tgt := 387) dL_judged_574 rfl ?_
        refine Gx.fgl (ls' := [(3, 13), (2, 45), (2, 47), (2, 46), (0, l), (0, r), (0, dN D), (1, spn D), (9, 0), (1, st9), (9, 0), (1, al), (9, 0), (0, w), (1, slp D (r - l)), (9, 0), (1, m), (9, 0), (0, e + 1), (9, 0), (0, eO l r e), (0, eT l r e), (0, k), (9, 0), (9, 0)]) 19 rfl ?_
        refine Gx.fgl (ls' := [(3, 13), (2, 45), (2, 47), (2, 46), (0, l), (0, r), (0, dN D), (1, spn D), (9, 0), (1, st9), (9, 0), (1, al), (9, 0), (0, w), (1, slp D (r - l)), (9, 0), (1, m), (9, 0), (0, e + 1), (9, 0), (9, 0), (0, eT l r e), (0, k), (9, 0), (9, 0)]) 20 rfl ?_
        refine Gx.fgl (ls' := [(3, 13), (2, 45), (2, 47), (2, 46), (0, l), (0, r), (0, dN D), (1, spn D), (9, 0), (1, st9), (9, 0), (1, al), (9, 0), (0, w), (1, slp D (r - l)), (9, 0), (1, m), (9, 0), (0, e + 1), (9, 0), (9, 0), (9, 0), (0, k), (9, 0), (9, 0)]) 21 rfl ?_
        refine Gx.fgl (ls' := [(3, 13), (2, 45), (2, 47), (2, 46), (0, l), (0, r), (0, dN D), (1, spn D), (9, 0), (1, st9), (9, 0), (1, al), (9, 0), (0, w), (1, slp D (r - l)), (9, 0), (1, m), (9, 0), (0, e + 1), (9, 0), (9, 0), (9, 0), (9, 0), (9, 0), (9, 0)]) 22 rfl ?_
        exact hkk m (by rw [hm]; unfold eco; rw [show dB D (eI D e) = k by omega])
      · skip
        refine x_iload dL_judged_450 rfl ?_
        refine x_iconst dL_judged_452 ?_
        refine x_iload dL_judged_453 rfl ?_
        refine x_imul dL_judged_455 ?_
        refine x_aload_n dL_judged_456 rfl rfl (by first | decide | omega) ?_
        refine x_iload dL_judged_457 rfl ?_
        refine x_ialdx (o := 47) (n := nn) (x := way D (eI D e)) dL_judged_459 rfl hs47 (by omega) (by omega) (hW _ (by omega) (by omega)) ?_
        have hr2 := way_b D (eI D e)
        refine x_imul dL_judged_460 ?_
        refine x_isub dL_judged_461 ?_
        refine Gx.topE (b := eO l r e - way D (eI D e) * 3 * k) (by rw [way3]) ?_
        refine x_istore (ls' := [(3, 13), (2, 45), (2, 47), (2, 46), (0, l), (0, r), (0, dN D), (1, spn D), (9, 0), (1, st9), (9, 0), (1, al), (9, 0), (0, w), (1, slp D (r - l)), (9, 0), (1, m), (9, 0), (0, e), (0, eI D e), (0, eO l r e), (0, eT l r e), (0, k), (0, eO l r e - way D (eI D e) * 3 * k), (9, 0)]) dL_judged_462 (Nat.le_of_ble_eq_true rfl) rfl rfl ?_
        refine x_iload dL_judged_464 rfl ?_
        refine x_bipush dL_judged_466 (by decide) ?_
        refine x_icmp_lt (tgt := 565) dL_judged_468 rfl (R32.in (by omega)) (R32.in (by decide)) (fun c468 => ?_) (fun c468 => ?_)
        · skip
          refine x_iinc (ls' := [(3, 13), (2, 45), (2, 47), (2, 46), (0, l), (0, r), (0, dN D), (1, spn D), (9, 0), (1, st9), (9, 0), (1, al), (9, 0), (0, w), (1, slp D (r - l)), (9, 0), (1, m), (9, 0), (0, e), (0, eI D e), (0, eO l r e), (0, eT l r e), (0, k + 1), (0, eO l r e - way D (eI D e) * 3 * k), (9, 0)]) dL_judged_565 rfl (Nat.le_of_ble_eq_true rfl) rfl rfl ?_
          refine x_goto (tgt := 439) dL_judged_568 rfl ?_
          refine Gx.fgl (ls' := [(3, 13), (2, 45), (2, 47), (2, 46), (0, l), (0, r), (0, dN D), (1, spn D), (9, 0), (1, st9), (9, 0), (1, al), (9, 0), (0, w), (1, slp D (r - l)), (9, 0), (1, m), (9, 0), (0, e), (0, eI D e), (0, eO l r e), (0, eT l r e), (0, k + 1), (9, 0), (9, 0)]) 23 rfl ?_
          exact ih439 _ (by omega) m (k + 1) rfl (by omega) (tcs hm hk0.1 (by omega))
        · skip
          refine x_iload dL_judged_471 rfl ?_
          refine x_bipush dL_judged_473 (by decide) ?_
          refine x_icmp_le (tgt := 481) dL_judged_475 rfl (R32.in (by omega)) (R32.in (by decide)) (fun c475 => ?_) (fun c475 => ?_)
          · skip
            refine x_iload dL_judged_481 rfl ?_
            refine x_iconst dL_judged_483 ?_
            refine x_callSP (as := [(0, eO l r e - way D (eI D e) * 3 * k), (0, 4)]) (rest := []) (k := 1) fL_judged_484.g ⟨Nat.le_of_ble_eq_true rfl, Nat.le_of_ble_eq_true rfl⟩ ⟨show 0 ≤ 1 by omega, show 0 ≤ 4 by omega⟩ xK_A hw rfl rfl rfl rfl rfl (Nat.le_of_ble_eq_true rfl) ⟨nt_no (by decide), ⟨nt_no (by decide), trivial⟩⟩ (by decide) (s_J9_floorMod_7cf53 G (eO l r e - way D (eI D e) * 3 * k) 4 μ (by first | omega | assumption) (by first | omega | assumption)) ?_
            refine x_istore (ls' := [(3, 13), (2, 45), (2, 47), (2, 46), (0, l), (0, r), (0, dN D), (1, spn D), (9, 0), (1, st9), (9, 0), (1, al), (9, 0), (0, w), (1, slp D (r - l)), (9, 0), (1, m), (9, 0), (0, e), (0, eI D e), (0, eO l r e), (0, eT l r e), (0, k), (0, eO l r e - way D (eI D e) * 3 * k), (0, (eO l r e - way D (eI D e) * 3 * k) % 4)]) dL_judged_487 (Nat.le_of_ble_eq_true rfl) rfl rfl ?_
            refine x_lload dL_judged_489 rfl ?_
            refine x_iload dL_judged_491 rfl ?_
            refine x_iconst dL_judged_493 ?_
            refine x_icmp_ne (tgt := 503) dL_judged_494 rfl (R32.in (by omega)) (R32.in (by decide)) (fun c494 => ?_) (fun c494 => ?_)
            · skip
              refine x_iload dL_judged_503 rfl ?_
              refine x_if_ne (tgt := 525) dL_judged_505 rfl (R32.in (by omega)) (fun c505 => ?_) (fun c505 => ?_)
              · skip
                refine x_iload dL_judged_525 rfl ?_
                refine x_iconst dL_judged_527 ?_
                refine x_icmp_ne (tgt := 548) dL_judged_528 rfl (R32.in (by omega)) (R32.in (by decide)) (fun c528 => ?_) (fun c528 => ?_)
                · skip
                  refine x_iload dL_judged_548 rfl ?_
                  refine x_iload dL_judged_550 rfl ?_
                  refine x_icmp_le (tgt := 561) dL_judged_552 rfl (R32.in (by omega)) (R32.in (by omega)) (fun c552 => ?_) (fun c552 => ?_)
                  · skip
                    refine x_lconst (v := 0) dL_judged_561 (by decide) ?_
                    refine x_ladd dL_judged_562 ?_
                    refine x_lstore (ls' := [(3, 13), (2, 45), (2, 47), (2, 46), (0, l), (0, r), (0, dN D), (1, spn D), (9, 0), (1, st9), (9, 0), (1, al), (9, 0), (0, w), (1, slp D (r - l)), (9, 0), (1, m + 0), (9, 0), (0, e), (0, eI D e), (0, eO l r e), (0, eT l r e), (0, k), (0, eO l r e - way D (eI D e) * 3 * k), (0, (eO l r e - way D (eI D e) * 3 * k) % 4)]) dL_judged_563 (Nat.le_of_ble_eq_true rfl) rfl rfl ?_
                    refine x_iinc (ls' := [(3, 13), (2, 45), (2, 47), (2, 46), (0, l), (0, r), (0, dN D), (1, spn D), (9, 0), (1, st9), (9, 0), (1, al), (9, 0), (0, w), (1, slp D (r - l)), (9, 0), (1, m + 0), (9, 0), (0, e), (0, eI D e), (0, eO l r e), (0, eT l r e), (0, k + 1), (0, eO l r e - way D (eI D e) * 3 * k), (0, (eO l r e - way D (eI D e) * 3 * k) % 4)]) dL_judged_565 rfl (Nat.le_of_ble_eq_true rfl) rfl rfl ?_
                    refine x_goto (tgt := 439) dL_judged_568 rfl ?_
                    refine Gx.fgl (ls' := [(3, 13), (2, 45), (2, 47), (2, 46), (0, l), (0, r), (0, dN D), (1, spn D), (9, 0), (1, st9), (9, 0), (1, al), (9, 0), (0, w), (1, slp D (r - l)), (9, 0), (1, m + 0), (9, 0), (0, e), (0, eI D e), (0, eO l r e), (0, eT l r e), (0, k + 1), (9, 0), (0, (eO l r e - way D (eI D e) * 3 * k) % 4)]) 23 rfl ?_
                    refine Gx.fgl (ls' := [(3, 13), (2, 45), (2, 47), (2, 46), (0, l), (0, r), (0, dN D), (1, spn D), (9, 0), (1, st9), (9, 0), (1, al), (9, 0), (0, w), (1, slp D (r - l)), (9, 0), (1, m + 0), (9, 0), (0, e), (0, eI D e), (0, eO l r e), (0, eT l r e), (0, k + 1), (9, 0), (9, 0)]) 24 rfl ?_
                    exact ih439 _ (by omega) (m + 0) (k + 1) rfl (by omega) (tcs hm hk0.1 (by omega))
                  · skip
                    refine x_ldc2 (n := 8) dL_judged_555 k_1069 (by decide) ?_
                    refine x_goto (tgt := 562) dL_judged_558 rfl ?_
                    refine x_ladd dL_judged_562 ?_
                    refine x_lstore (ls' := [(3, 13), (2, 45), (2, 47), (2, 46), (0, l), (0, r), (0, dN D), (1, spn D), (9, 0), (1, st9), (9, 0), (1, al), (9, 0), (0, w), (1, slp D (r - l)), (9, 0), (1, m + 8), (9, 0), (0, e), (0, eI D e), (0, eO l r e), (0, eT l r e), (0, k), (0, eO l r e - way D (eI D e) * 3 * k), (0, (eO l r e - way D (eI D e) * 3 * k) % 4)]) dL_judged_563 (Nat.le_of_ble_eq_true rfl) rfl rfl ?_
                    refine x_iinc (ls' := [(3, 13), (2, 45), (2, 47), (2, 46), (0, l), (0, r), (0, dN D), (1, spn D), (9, 0), (1, st9), (9, 0), (1, al), (9, 0), (0, w), (1, slp D (r - l)), (9, 0), (1, m + 8), (9, 0), (0, e), (0, eI D e), (0, eO l r e), (0, eT l r e), (0, k + 1), (0, eO l r e - way D (eI D e) * 3 * k), (0, (eO l r e - way D (eI D e) * 3 * k) % 4)]) dL_judged_565 rfl (Nat.le_of_ble_eq_true rfl) rfl rfl ?_
                    refine x_goto (tgt := 439) dL_judged_568 rfl ?_
                    refine Gx.fgl (ls' := [(3, 13), (2, 45), (2, 47), (2, 46), (0, l), (0, r), (0, dN D), (1, spn D), (9, 0), (1, st9), (9, 0), (1, al), (9, 0), (0, w), (1, slp D (r - l)), (9, 0), (1, m + 8), (9, 0), (0, e), (0, eI D e), (0, eO l r e), (0, eT l r e), (0, k + 1), (9, 0), (0, (eO l r e - way D (eI D e) * 3 * k) % 4)]) 23 rfl ?_
                    refine Gx.fgl (ls' := [(3, 13), (2, 45), (2, 47), (2, 46), (0, l), (0, r), (0, dN D), (1, spn D), (9, 0), (1, st9), (9, 0), (1, al), (9, 0), (0, w), (1, slp D (r - l)), (9, 0), (1, m + 8), (9, 0), (0, e), (0, eI D e), (0, eO l r e), (0, eT l r e), (0, k + 1), (9, 0), (9, 0)]) 24 rfl ?_
                    exact ih439 _ (by omega) (m + 8) (k + 1) rfl (by omega) (tcs hm hk0.1 (by omega))
                · skip
                  refine x_iload dL_judged_531 rfl ?_
                  refine x_iload dL_judged_533 rfl ?_
                  refine x_icmp_ge (tgt := 544) dL_judged_535 rfl (R32.in (by omega)) (R32.in (by omega)) (fun c535 => ?_) (fun c535 => ?_)
                  · skip
                    refine x_lconst (v := 0) dL_judged_544 (by decide) ?_
                    refine x_goto (tgt := 562) dL_judged_545 rfl ?_
                    refine x_ladd dL_judged_562 ?_
                    refine x_lstore (ls' := [(3, 13), (2, 45), (2, 47), (2, 46), (0, l), (0, r), (0, dN D), (1, spn D), (9, 0), (1, st9), (9, 0), (1, al), (9, 0), (0, w), (1, slp D (r - l)), (9, 0), (1, m + 0), (9, 0), (0, e), (0, eI D e), (0, eO l r e), (0, eT l r e), (0, k), (0, eO l r e - way D (eI D e) * 3 * k), (0, (eO l r e - way D (eI D e) * 3 * k) % 4)]) dL_judged_563 (Nat.le_of_ble_eq_true rfl) rfl rfl ?_
                    refine x_iinc (ls' := [(3, 13), (2, 45), (2, 47), (2, 46), (0, l), (0, r), (0, dN D), (1, spn D), (9, 0), (1, st9), (9, 0), (1, al), (9, 0), (0, w), (1, slp D (r - l)), (9, 0), (1, m + 0), (9, 0), (0, e), (0, eI D e), (0, eO l r e), (0, eT l r e), (0, k + 1), (0, eO l r e - way D (eI D e) * 3 * k), (0, (eO l r e - way D (eI D e) * 3 * k) % 4)]) dL_judged_565 rfl (Nat.le_of_ble_eq_true rfl) rfl rfl ?_
                    refine x_goto (tgt := 439) dL_judged_568 rfl ?_
                    refine Gx.fgl (ls' := [(3, 13), (2, 45), (2, 47), (2, 46), (0, l), (0, r), (0, dN D), (1, spn D), (9, 0), (1, st9), (9, 0), (1, al), (9, 0), (0, w), (1, slp D (r - l)), (9, 0), (1, m + 0), (9, 0), (0, e), (0, eI D e), (0, eO l r e), (0, eT l r e), (0, k + 1), (9, 0), (0, (eO l r e - way D (eI D e) * 3 * k) % 4)]) 23 rfl ?_
                    refine Gx.fgl (ls' := [(3, 13), (2, 45), (2, 47), (2, 46), (0, l), (0, r), (0, dN D), (1, spn D), (9, 0), (1, st9), (9, 0), (1, al), (9, 0), (0, w), (1, slp D (r - l)), (9, 0), (1, m + 0), (9, 0), (0, e), (0, eI D e), (0, eO l r e), (0, eT l r e), (0, k + 1), (9, 0), (9, 0)]) 24 rfl ?_
                    exact ih439 _ (by omega) (m + 0) (k + 1) rfl (by omega) (tcs hm hk0.1 (by omega))
                  · skip
                    refine x_ldc2 (n := 8) dL_judged_538 k_1069 (by decide) ?_
                    refine x_goto (tgt := 562) dL_judged_541 rfl ?_
                    refine x_ladd dL_judged_562 ?_
                    refine x_lstore (ls' := [(3, 13), (2, 45), (2, 47), (2, 46), (0, l), (0, r), (0, dN D), (1, spn D), (9, 0), (1, st9), (9, 0), (1, al), (9, 0), (0, w), (1, slp D (r - l)), (9, 0), (1, m + 8), (9, 0), (0, e), (0, eI D e), (0, eO l r e), (0, eT l r e), (0, k), (0, eO l r e - way D (eI D e) * 3 * k), (0, (eO l r e - way D (eI D e) * 3 * k) % 4)]) dL_judged_563 (Nat.le_of_ble_eq_true rfl) rfl rfl ?_
                    refine x_iinc (ls' := [(3, 13), (2, 45), (2, 47), (2, 46), (0, l), (0, r), (0, dN D), (1, spn D), (9, 0), (1, st9), (9, 0), (1, al), (9, 0), (0, w), (1, slp D (r - l)), (9, 0), (1, m + 8), (9, 0), (0, e), (0, eI D e), (0, eO l r e), (0, eT l r e), (0, k + 1), (0, eO l r e - way D (eI D e) * 3 * k), (0, (eO l r e - way D (eI D e) * 3 * k) % 4)]) dL_judged_565 rfl (Nat.le_of_ble_eq_true rfl) rfl rfl ?_
                    refine x_goto (tgt := 439) dL_judged_568 rfl ?_
                    refine Gx.fgl (ls' := [(3, 13), (2, 45), (2, 47), (2, 46), (0, l), (0, r), (0, dN D), (1, spn D), (9, 0), (1, st9), (9, 0), (1, al), (9, 0), (0, w), (1, slp D (r - l)), (9, 0), (1, m + 8), (9, 0), (0, e), (0, eI D e), (0, eO l r e), (0, eT l r e), (0, k + 1), (9, 0), (0, (eO l r e - way D (eI D e) * 3 * k) % 4)]) 23 rfl ?_
                    refine Gx.fgl (ls' := [(3, 13), (2, 45), (2, 47), (2, 46), (0, l), (0, r), (0, dN D), (1, spn D), (9, 0), (1, st9), (9, 0), (1, al), (9, 0), (0, w), (1, slp D (r - l)), (9, 0), (1, m + 8), (9, 0), (0, e), (0, eI D e), (0, eO l r e), (0, eT l r e), (0, k + 1), (9, 0), (9, 0)]) 24 rfl ?_
                    exact ih439 _ (by omega) (m + 8) (k + 1) rfl (by omega) (tcs hm hk0.1 (by omega))
              · skip
                refine x_iload dL_judged_508 rfl ?_
                refine x_iload dL_judged_510 rfl ?_
                refine x_icmp_ne (tgt := 521) dL_judged_512 rfl (R32.in (by omega)) (R32.in (by omega)) (fun c512 => ?_) (fun c512 => ?_)
                · skip
                  refine x_lconst (v := 1) dL_judged_521 (by decide) ?_
                  refine x_goto (tgt := 562) dL_judged_522 rfl ?_
                  refine x_ladd dL_judged_562 ?_
                  refine x_lstore (ls' := [(3, 13), (2, 45), (2, 47), (2, 46), (0, l), (0, r), (0, dN D), (1, spn D), (9, 0), (1, st9), (9, 0), (1, al), (9, 0), (0, w), (1, slp D (r - l)), (9, 0), (1, m + 1), (9, 0), (0, e), (0, eI D e), (0, eO l r e), (0, eT l r e), (0, k), (0, eO l r e - way D (eI D e) * 3 * k), (0, (eO l r e - way D (eI D e) * 3 * k) % 4)]) dL_judged_563 (Nat.le_of_ble_eq_true rfl) rfl rfl ?_
                  refine x_iinc (ls' := [(3, 13), (2, 45), (2, 47), (2, 46), (0, l), (0, r), (0, dN D), (1, spn D), (9, 0), (1, st9), (9, 0), (1, al), (9, 0), (0, w), (1, slp D (r - l)), (9, 0), (1, m + 1), (9, 0), (0, e), (0, eI D e), (0, eO l r e), (0, eT l r e), (0, k + 1), (0, eO l r e - way D (eI D e) * 3 * k), (0, (eO l r e - way D (eI D e) * 3 * k) % 4)]) dL_judged_565 rfl (Nat.le_of_ble_eq_true rfl) rfl rfl ?_
                  refine x_goto (tgt := 439) dL_judged_568 rfl ?_
                  refine Gx.fgl (ls' := [(3, 13), (2, 45), (2, 47), (2, 46), (0, l), (0, r), (0, dN D), (1, spn D), (9, 0), (1, st9), (9, 0), (1, al), (9, 0), (0, w), (1, slp D (r - l)), (9, 0), (1, m + 1), (9, 0), (0, e), (0, eI D e), (0, eO l r e), (0, eT l r e), (0, k + 1), (9, 0), (0, (eO l r e - way D (eI D e) * 3 * k) % 4)]) 23 rfl ?_
                  refine Gx.fgl (ls' := [(3, 13), (2, 45), (2, 47), (2, 46), (0, l), (0, r), (0, dN D), (1, spn D), (9, 0), (1, st9), (9, 0), (1, al), (9, 0), (0, w), (1, slp D (r - l)), (9, 0), (1, m + 1), (9, 0), (0, e), (0, eI D e), (0, eO l r e), (0, eT l r e), (0, k + 1), (9, 0), (9, 0)]) 24 rfl ?_
                  exact ih439 _ (by omega) (m + 1) (k + 1) rfl (by omega) (tcs hm hk0.1 (by omega))
                · skip
                  refine x_ldc2 (n := 2) dL_judged_515 k_1057 (by decide) ?_
                  refine x_goto (tgt := 562) dL_judged_518 rfl ?_
                  refine x_ladd dL_judged_562 ?_
                  refine x_lstore (ls' := [(3, 13), (2, 45), (2, 47), (2, 46), (0, l), (0, r), (0, dN D), (1, spn D), (9, 0), (1, st9), (9, 0), (1, al), (9, 0), (0, w), (1, slp D (r - l)), (9, 0), (1, m + 2), (9, 0), (0, e), (0, eI D e), (0, eO l r e), (0, eT l r e), (0, k), (0, eO l r e - way D (eI D e) * 3 * k), (0, (eO l r e - way D (eI D e) * 3 * k) % 4)]) dL_judged_563 (Nat.le_of_ble_eq_true rfl) rfl rfl ?_
                  refine x_iinc (ls' := [(3, 13), (2, 45), (2, 47), (2, 46), (0, l), (0, r), (0, dN D), (1, spn D), (9, 0), (1, st9), (9, 0), (1, al), (9, 0), (0, w), (1, slp D (r - l)), (9, 0), (1, m + 2), (9, 0), (0, e), (0, eI D e), (0, eO l r e), (0, eT l r e), (0, k + 1), (0, eO l r e - way D (eI D e) * 3 * k), (0, (eO l r e - way D (eI D e) * 3 * k) % 4)]) dL_judged_565 rfl (Nat.le_of_ble_eq_true rfl) rfl rfl ?_
                  refine x_goto (tgt := 439) dL_judged_568 rfl ?_
                  refine Gx.fgl (ls' := [(3, 13), (2, 45), (2, 47), (2, 46), (0, l), (0, r), (0, dN D), (1, spn D), (9, 0), (1, st9), (9, 0), (1, al), (9, 0), (0, w), (1, slp D (r - l)), (9, 0), (1, m + 2), (9, 0), (0, e), (0, eI D e), (0, eO l r e), (0, eT l r e), (0, k + 1), (9, 0), (0, (eO l r e - way D (eI D e) * 3 * k) % 4)]) 23 rfl ?_
                  refine Gx.fgl (ls' := [(3, 13), (2, 45), (2, 47), (2, 46), (0, l), (0, r), (0, dN D), (1, spn D), (9, 0), (1, st9), (9, 0), (1, al), (9, 0), (0, w), (1, slp D (r - l)), (9, 0), (1, m + 2), (9, 0), (0, e), (0, eI D e), (0, eO l r e), (0, eT l r e), (0, k + 1), (9, 0), (9, 0)]) 24 rfl ?_
                  exact ih439 _ (by omega) (m + 2) (k + 1) rfl (by omega) (tcs hm hk0.1 (by omega))
            · skip
              refine x_ldc2 (n := 25) dL_judged_497 k_1068 (by decide) ?_
              refine x_goto (tgt := 562) dL_judged_500 rfl ?_
              refine x_ladd dL_judged_562 ?_
              refine x_lstore (ls' := [(3, 13), (2, 45), (2, 47), (2, 46), (0, l), (0, r), (0, dN D), (1, spn D), (9, 0), (1, st9), (9, 0), (1, al), (9, 0), (0, w), (1, slp D (r - l)), (9, 0), (1, m + 25), (9, 0), (0, e), (0, eI D e), (0, eO l r e), (0, eT l r e), (0, k), (0, eO l r e - way D (eI D e) * 3 * k), (0, (eO l r e - way D (eI D e) * 3 * k) % 4)]) dL_judged_563 (Nat.le_of_ble_eq_true rfl) rfl rfl ?_
              refine x_iinc (ls' := [(3, 13), (2, 45), (2, 47), (2, 46), (0, l), (0, r), (0, dN D), (1, spn D), (9, 0), (1, st9), (9, 0), (1, al), (9, 0), (0, w), (1, slp D (r - l)), (9, 0), (1, m + 25), (9, 0), (0, e), (0, eI D e), (0, eO l r e), (0, eT l r e), (0, k + 1), (0, eO l r e - way D (eI D e) * 3 * k), (0, (eO l r e - way D (eI D e) * 3 * k) % 4)]) dL_judged_565 rfl (Nat.le_of_ble_eq_true rfl) rfl rfl ?_
              refine x_goto (tgt := 439) dL_judged_568 rfl ?_
              refine Gx.fgl (ls' := [(3, 13), (2, 45), (2, 47), (2, 46), (0, l), (0, r), (0, dN D), (1, spn D), (9, 0), (1, st9), (9, 0), (1, al), (9, 0), (0, w), (1, slp D (r - l)), (9, 0), (1, m + 25), (9, 0), (0, e), (0, eI D e), (0, eO l r e), (0, eT l r e), (0, k + 1), (9, 0), (0, (eO l r e - way D (eI D e) * 3 * k) % 4)]) 23 rfl ?_
              refine Gx.fgl (ls' := [(3, 13), (2, 45), (2, 47), (2, 46), (0, l), (0, r), (0, dN D), (1, spn D), (9, 0), (1, st9), (9, 0), (1, al), (9, 0), (0, w), (1, slp D (r - l)), (9, 0), (1, m + 25), (9, 0), (0, e), (0, eI D e), (0, eO l r e), (0, eT l r e), (0, k + 1), (9, 0), (9, 0)]) 24 rfl ?_
              exact ih439 _ (by omega) (m + 25) (k + 1) rfl (by omega) (tcs hm hk0.1 (by omega))
          · skip
            refine x_goto (tgt := 565) dL_judged_478 rfl ?_
            refine x_iinc (ls' := [(3, 13), (2, 45), (2, 47), (2, 46), (0, l), (0, r), (0, dN D), (1, spn D), (9, 0), (1, st9), (9, 0), (1, al), (9, 0), (0, w), (1, slp D (r - l)), (9, 0), (1, m), (9, 0), (0, e), (0, eI D e), (0, eO l r e), (0, eT l r e), (0, k + 1), (0, eO l r e - way D (eI D e) * 3 * k), (9, 0)]) dL_judged_565 rfl (Nat.le_of_ble_eq_true rfl) rfl rfl ?_
            refine x_goto (tgt := 439) dL_judged_568 rfl ?_
            refine Gx.fgl (ls' := [(3, 13), (2, 45), (2, 47), (2, 46), (0, l), (0, r), (0, dN D), (1, spn D), (9, 0), (1, st9), (9, 0), (1, al), (9, 0), (0, w), (1, slp D (r - l)), (9, 0), (1, m), (9, 0), (0, e), (0, eI D e), (0, eO l r e), (0, eT l r e), (0, k + 1), (9, 0), (9, 0)]) 23 rfl ?_
            exact ih439 _ (by omega) m (k + 1) rfl (by omega) (tcs hm hk0.1 (by omega))
  exact hL439 _ sf 0 rfl ⟨by decide, by omega⟩ (by show sf = sf + 0; omega)
