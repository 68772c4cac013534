set_option maxRecDepth 100000 in
set_option maxHeartbeats 4000000 in
theorem s_L_judged (G : AG) (D : GDt) (nn : Nat) (L : Nat) (l : Int) (r : Int) (μ : Mu) (hlen : (gS G).length = L) (hL : 48 ≤ L ∧ L ≤ 60) (hs45 : (gS G)[45]? = some (20, nn)) (hs46 : (gS G)[46]? = some (20, nn)) (hs47 : (gS G)[47]? = some (20, nn)) (hw : wfm G μ) (hD : LD G D nn μ) (hW : LW D μ) (hlr : (-60 ≤ l ∧ l ≤ 60) ∧ (-60 ≤ r ∧ r ≤ 60) ∧ (-8 ≤ r - l ∧ r - l ≤ 8)) : Gx (xK G M_L_judged 1 4 (judP D l r L G μ)) G M_L_judged 0 0 0 [(3, 13), (2, 45), (2, 47), (2, 46), (0, l), (0, r), (9, 0), (9, 0), (9, 0), (9, 0), (9, 0), (9, 0), (9, 0), (9, 0), (9, 0), (9, 0), (9, 0), (9, 0), (9, 0), (9, 0), (9, 0), (9, 0), (9, 0), (9, 0), (9, 0)] [] μ := by
  have hok := hD.ok
  have hn := hok.n
  have hnn := hD.n_n
  have hkn := hD.kn
  have hsp := hok.sp
  have hk4 := hkn.2
  refine x_aload_n dL_judged_0 rfl rfl (by first | decide | omega) ?_
  refine x_alen (o := 45) (n := nn) (t := 0) (f := nn) dL_judged_1 rfl hs45 (Nat.le_of_ble_eq_true rfl) rfl ?_
  refine Gx.topE (b := dN D) hnn.1 ?_
  refine x_istore (ls' := [(3, 13), (2, 45), (2, 47), (2, 46), (0, l), (0, r), (0, dN D), (9, 0), (9, 0), (9, 0), (9, 0), (9, 0), (9, 0), (9, 0), (9, 0), (9, 0), (9, 0), (9, 0), (9, 0), (9, 0), (9, 0), (9, 0), (9, 0), (9, 0), (9, 0)]) dL_judged_2 (Nat.le_of_ble_eq_true rfl) rfl rfl ?_
  refine x_aload_n dL_judged_4 rfl rfl (by first | decide | omega) ?_
  refine x_iload dL_judged_5 rfl ?_
  refine x_iconst dL_judged_7 ?_
  refine x_isub dL_judged_8 ?_
  refine x_ialdx (o := 46) (n := nn) (x := dX D ((dN D) - 1)) dL_judged_9 rfl hs46 (by omega) (by omega) (hD.x (by omega)) ?_
  have hr1 := (hD.ok).xs (i := ((dN D) - 1)) (by omega)
  refine Gx.topE (b := spn D) rfl ?_
  refine x_i2l dL_judged_10 (R32.in (by omega)) ?_
  refine x_lstore (ls' := [(3, 13), (2, 45), (2, 47), (2, 46), (0, l), (0, r), (0, dN D), (1, spn D), (9, 0), (9, 0), (9, 0), (9, 0), (9, 0), (9, 0), (9, 0), (9, 0), (9, 0), (9, 0), (9, 0), (9, 0), (9, 0), (9, 0), (9, 0), (9, 0), (9, 0)]) dL_judged_11 (Nat.le_of_ble_eq_true rfl) rfl rfl ?_
  refine x_lconst (v := 0) dL_judged_13 (by decide) ?_
  refine x_lstore (ls' := [(3, 13), (2, 45), (2, 47), (2, 46), (0, l), (0, r), (0, dN D), (1, spn D), (9, 0), (1, 0), (9, 0), (9, 0), (9, 0), (9, 0), (9, 0), (9, 0), (9, 0), (9, 0), (9, 0), (9, 0), (9, 0), (9, 0), (9, 0), (9, 0), (9, 0)]) dL_judged_14 (Nat.le_of_ble_eq_true rfl) rfl rfl ?_
  refine x_lconst (v := 0) dL_judged_16 (by decide) ?_
  refine x_lstore (ls' := [(3, 13), (2, 45), (2, 47), (2, 46), (0, l), (0, r), (0, dN D), (1, spn D), (9, 0), (1, 0), (9, 0), (1, 0), (9, 0), (9, 0), (9, 0), (9, 0), (9, 0), (9, 0), (9, 0), (9, 0), (9, 0), (9, 0), (9, 0), (9, 0), (9, 0)]) dL_judged_17 (Nat.le_of_ble_eq_true rfl) rfl rfl ?_
  refine x_iconst dL_judged_19 ?_
  refine x_istore (ls' := [(3, 13), (2, 45), (2, 47), (2, 46), (0, l), (0, r), (0, dN D), (1, spn D), (9, 0), (1, 0), (9, 0), (1, 0), (9, 0), (0, 0), (9, 0), (9, 0), (9, 0), (9, 0), (9, 0), (9, 0), (9, 0), (9, 0), (9, 0), (9, 0), (9, 0)]) dL_judged_20 (Nat.le_of_ble_eq_true rfl) rfl rfl ?_
  have hL22 : ∀ (n22 : Nat) (st9 : Int) (al : Int) (i : Int), (dN D - i).toNat = n22 → (0 ≤ i ∧ i ≤ dN D) → (st9 = ssu D (r - l) l i) → (al = lsu D (r - l) l i) → (∀ j : Int, 0 ≤ j → j < i → okN D (r - l) l j) → Gx (xK G M_L_judged 1 4 (judP D l r L G μ)) G M_L_judged 0 0 22 [(3, 13), (2, 45), (2, 47), (2, 46), (0, l), (0, r), (0, dN D), (1, spn D), (9, 0), (1, st9), (9, 0), (1, al), (9, 0), (0, i), (9, 0), (9, 0), (9, 0), (9, 0), (9, 0), (9, 0), (9, 0), (9, 0), (9, 0), (9, 0), (9, 0)] [] μ := by
    intro n22
    induction n22 using Nat.strongRecOn with
    | ind n22 ih22 =>
      intro st9 al i hn22 hi0 hst9 hal9 hok9
      have hsr := ssu_r (s := r - l) (l := l) hok (by omega) (by omega) hi0
      have hlr8 := lsu_r hok hi0 hlr
      refine x_iload dL_judged_22 rfl ?_
      refine x_iload dL_judged_24 rfl ?_
      refine x_icmp_ge (tgt := 244) dL_judged_26 rfl (R32.in (by omega)) (R32.in (by omega)) (fun c26 => ?_) (fun c26 => ?_)
      · skip
        refine x_bipush dL_judged_244 (by decide) ?_
        refine x_iconst dL_judged_246 ?_
        refine x_aload_n dL_judged_247 rfl rfl (by first | decide | omega) ?_
        refine x_iload dL_judged_248 rfl ?_
        refine x_iconst dL_judged_250 ?_
        refine x_isub dL_judged_251 ?_
        refine x_ialdx (o := 45) (n := nn) (x := dH D ((dN D) - 1)) dL_judged_252 rfl hs45 (by omega) (by omega) (hD.p (by omega)) ?_
        have hr2 := (hD.ok).hr (i := ((dN D) - 1)) (by omega)
        refine x_aload_n dL_judged_253 rfl rfl (by first | decide | omega) ?_
        refine x_iconst dL_judged_254 ?_
        refine x_ialdx (o := 45) (n := nn) (x := dH D 0) dL_judged_255 rfl hs45 (by omega) (by omega) (hD.p (by omega)) ?_
        have hr3 := (hD.ok).hr (i := 0) (by omega)
        refine x_isub dL_judged_256 ?_
        refine x_min fL_judged_257 (R32.in (by decide)) (R32.in (by omega)) (Nat.le_of_ble_eq_true rfl) ⟨Nat.le_of_ble_eq_true rfl, Nat.le_of_ble_eq_true rfl, show 0 ≤ 1 by omega, show 0 ≤ 4 by omega⟩ ?_
        refine x_max fL_judged_260 (R32.in (by decide)) (R32.in (by omega)) (Nat.le_of_ble_eq_true rfl) ⟨Nat.le_of_ble_eq_true rfl, Nat.le_of_ble_eq_true rfl, show 0 ≤ 1 by omega, show 0 ≤ 4 by omega⟩ ?_
        refine x_istore (ls' := [(3, 13), (2, 45), (2, 47), (2, 46), (0, l), (0, r), (0, dN D), (1, spn D), (9, 0), (1, st9), (9, 0), (1, al), (9, 0), (0, max (-5) (min 5 ((dH D ((dN D) - 1)) - (dH D 0)))), (9, 0), (9, 0), (9, 0), (9, 0), (9, 0), (9, 0), (9, 0), (9, 0), (9, 0), (9, 0), (9, 0)]) dL_judged_263 (Nat.le_of_ble_eq_true rfl) rfl rfl ?_
        refine x_iconst dL_judged_265 ?_
        refine x_istore (ls' := [(3, 13), (2, 45), (2, 47), (2, 46), (0, l), (0, r), (0, dN D), (1, spn D), (9, 0), (1, st9), (9, 0), (1, al), (9, 0), (0, max (-5) (min 5 ((dH D ((dN D) - 1)) - (dH D 0)))), (0, 1), (9, 0), (9, 0), (9, 0), (9, 0), (9, 0), (9, 0), (9, 0), (9, 0), (9, 0), (9, 0)]) dL_judged_266 (Nat.le_of_ble_eq_true rfl) rfl rfl ?_
        have hL268 : ∀ (n268 : Nat) (w : Int) (j : Int), (dN D - j).toNat = n268 → (1 ≤ j ∧ j ≤ dN D - 1) → (w = wnt D j) → Gx (xK G M_L_judged 1 4 (judP D l r L G μ)) G M_L_judged 0 0 268 [(3, 13), (2, 45), (2, 47), (2, 46), (0, l), (0, r), (0, dN D), (1, spn D), (9, 0), (1, st9), (9, 0), (1, al), (9, 0), (0, w), (0, j), (9, 0), (9, 0), (9, 0), (9, 0), (9, 0), (9, 0), (9, 0), (9, 0), (9, 0), (9, 0)] [] μ := by
          intro n268
          induction n268 using Nat.strongRecOn with
          | ind n268 ih268 =>
            intro w j hn268 hj0 hwn
            have hwr := wnt_r D j
            refine x_iload dL_judged_268 rfl ?_
            refine x_iload dL_judged_270 rfl ?_
            refine x_iconst dL_judged_272 ?_
            refine x_isub dL_judged_273 ?_
            refine x_icmp_ge (tgt := 340) dL_judged_274 rfl (R32.in (by omega)) (R32.in (by omega)) (fun c274 => ?_) (fun c274 => ?_)
            · skip
              have hwant : w = want D := (by first | (rw [want_w, show dN D - 1 = j by omega]; exact hwn) | (rw [want_w, wnt_k (by omega)]; rw [wnt_k (by omega)] at hwn; exact hwn))
              have hslr := slp_f D (r - l) (by omega)
              refine x_bipush dL_judged_340 (by decide) ?_
              refine x_iload dL_judged_342 rfl ?_
              refine x_iload dL_judged_344 rfl ?_
              refine x_isub dL_judged_346 ?_
              refine x_iload dL_judged_347 rfl ?_
              refine x_isub dL_judged_349 ?_
              refine x_abs fL_judged_350 (R32.in (by omega)) (Nat.le_of_ble_eq_true rfl) ⟨Nat.le_of_ble_eq_true rfl, Nat.le_of_ble_eq_true rfl, show 0 ≤ 1 by omega, show 0 ≤ 4 by omega⟩ ?_
              refine x_imul dL_judged_353 ?_
              refine x_iload dL_judged_354 rfl ?_
              refine x_iload dL_judged_356 rfl ?_
              refine x_isub dL_judged_358 ?_
              refine x_callSP (as := [(0, r - l)]) (rest := [(0, 6 * (if 0 ≤ (r - l) - w then (r - l) - w else -((r - l) - w)))]) (k := 0) fL_judged_359.g ⟨Nat.le_of_ble_eq_true rfl, Nat.le_of_ble_eq_true rfl⟩ ⟨show 0 ≤ 1 by omega, show 0 ≤ 4 by omega⟩ xK_A hw rfl rfl rfl rfl rfl (Nat.le_of_ble_eq_true rfl) ⟨nt_no (by decide), trivial⟩ (by decide) (s_J6_signum_0f7a4 G (r - l) μ (by first | omega | assumption)) ?_
              have hf4 := sgn_r (r - l)
              refine x_iload dL_judged_362 rfl ?_
              refine x_callSP (as := [(0, w)]) (rest := [(0, sgn (r - l)), (0, 6 * (if 0 ≤ (r - l) - w then (r - l) - w else -((r - l) - w)))]) (k := 0) fL_judged_364.g ⟨Nat.le_of_ble_eq_true rfl, Nat.le_of_ble_eq_true rfl⟩ ⟨show 0 ≤ 1 by omega, show 0 ≤ 4 by omega⟩ xK_A hw rfl rfl rfl rfl rfl (Nat.le_of_ble_eq_true rfl) ⟨nt_no (by decide), trivial⟩ (by decide) (s_J6_signum_0f7a4 G w μ (by first | omega | assumption)) ?_
              have hf5 := sgn_r w
              refine x_imul dL_judged_367 ?_
              have hsg := sgn_b (r - l) w
              have hJ368_1 : ∀ z1_0 : Int, z1_0 = (if 0 ≤ ((sgn (r - l)) * (sgn w)) then 0 else 20) → Gx (xK G M_L_judged 1 4 (judP D l r L G μ)) G M_L_judged 0 0 377 [(3, 13), (2, 45), (2, 47), (2, 46), (0, l), (0, r), (0, dN D), (1, spn D), (9, 0), (1, st9), (9, 0), (1, al), (9, 0), (0, w), (0, j), (9, 0), (9, 0), (9, 0), (9, 0), (9, 0), (9, 0), (9, 0), (9, 0), (9, 0), (9, 0)] [(0, z1_0), (0, 6 * (if 0 ≤ (r - l) - w then (r - l) - w else -((r - l) - w)))] μ := by
                intro z1_0 hz1_0
                refine x_iadd dL_judged_377 ?_
                refine Gx.topE (b := slp D (r - l)) (by rw [← jslp (by omega) rfl, ← hwant]; omega) ?_
                refine x_i2l dL_judged_378 (R32.in (by omega)) ?_
                refine x_lstore (ls' := [(3, 13), (2, 45), (2, 47), (2, 46), (0, l), (0, r), (0, dN D), (1, spn D), (9, 0), (1, st9), (9, 0), (1, al), (9, 0), (0, w), (1, slp D (r - l)), (9, 0), (9, 0), (9, 0), (9, 0), (9, 0), (9, 0), (9, 0), (9, 0), (9, 0), (9, 0)]) dL_judged_379 (Nat.le_of_ble_eq_true rfl) rfl rfl ?_
                exact s_L_judgedB G D nn L l r w st9 al μ hlen hL hs45 hs46 hs47 hw hD hW hlr (by rw [hst9, show i = dN D by omega]) (by rw [hal9, show i = dN D by omega]) (fun j h0 h1 => hok9 j h0 (by omega))
              have hsg := sgn_b (r - l) w
              refine x_if_ge (tgt := 376) dL_judged_368 rfl (R32.in (by omega)) (fun c368 => ?_) (fun c368 => ?_)
              · skip
                refine x_iconst dL_judged_376 ?_
                exact hJ368_1 _ (by first | omega | simp [*])
              · skip
                refine x_bipush dL_judged_371 (by decide) ?_
                refine x_goto (tgt := 377) dL_judged_373 rfl ?_
                exact hJ368_1 _ (by first | omega | simp [*])
            · skip
              refine x_aload_n dL_judged_277 rfl rfl (by first | decide | omega) ?_
              refine x_callSP (as := [(2, 47)]) (rest := []) (k := 4) fL_judged_278.g ⟨Nat.le_of_ble_eq_true rfl, Nat.le_of_ble_eq_true rfl⟩ ⟨show 0 ≤ 1 by omega, show 0 ≤ 4 by omega⟩ xK_A hw rfl rfl rfl rfl rfl (Nat.le_of_ble_eq_true rfl) ⟨fun _ => (by omega), trivial⟩ (by decide) (s_L_isKneedD G D nn μ hs47 hnn.1 hok hW) ?_
              refine x_if_ne (tgt := 340) dL_judged_281 rfl (R32.in (by have := am_b_r ((¬ klow D = 99)); omega)) (fun c281 => ?_) (fun c281 => ?_)
              · skip
                replace c281 := am_b1 c281
                have hwant : w = want D := (by first | (rw [want_w, show dN D - 1 = j by omega]; exact hwn) | (rw [want_w, wnt_k (by omega)]; rw [wnt_k (by omega)] at hwn; exact hwn))
                have hslr := slp_f D (r - l) (by omega)
                refine x_bipush dL_judged_340 (by decide) ?_
                refine x_iload dL_judged_342 rfl ?_
                refine x_iload dL_judged_344 rfl ?_
                refine x_isub dL_judged_346 ?_
                refine x_iload dL_judged_347 rfl ?_
                refine x_isub dL_judged_349 ?_
                refine x_abs fL_judged_350 (R32.in (by omega)) (Nat.le_of_ble_eq_true rfl) ⟨Nat.le_of_ble_eq_true rfl, Nat.le_of_ble_eq_true rfl, show 0 ≤ 1 by omega, show 0 ≤ 4 by omega⟩ ?_
                refine x_imul dL_judged_353 ?_
                refine x_iload dL_judged_354 rfl ?_
                refine x_iload dL_judged_356 rfl ?_
                refine x_isub dL_judged_358 ?_
                refine x_callSP (as := [(0, r - l)]) (rest := [(0, 6 * (if 0 ≤ (r - l) - w then (r - l) - w else -((r - l) - w)))]) (k := 0) fL_judged_359.g ⟨Nat.le_of_ble_eq_true rfl, Nat.le_of_ble_eq_true rfl⟩ ⟨show 0 ≤ 1 by omega, show 0 ≤ 4 by omega⟩ xK_A hw rfl rfl rfl rfl rfl (Nat.le_of_ble_eq_true rfl) ⟨nt_no (by decide), trivial⟩ (by decide) (s_J6_signum_0f7a4 G (r - l) μ (by first | omega | assumption)) ?_
                have hf6 := sgn_r (r - l)
                refine x_iload dL_judged_362 rfl ?_
                refine x_callSP (as := [(0, w)]) (rest := [(0, sgn (r - l)), (0, 6 * (if 0 ≤ (r - l) - w then (r - l) - w else -((r - l) - w)))]) (k := 0) fL_judged_364.g ⟨Nat.le_of_ble_eq_true rfl, Nat.le_of_ble_eq_true rfl⟩ ⟨show 0 ≤ 1 by omega, show 0 ≤ 4 by omega⟩ xK_A hw rfl rfl rfl rfl rfl (Nat.le_of_ble_eq_true rfl) ⟨nt_no (by decide), trivial⟩ (by decide) (s_J6_signum_0f7a4 G w μ (by first | omega | assumption)) ?_
                have hf7 := sgn_r w
                refine x_imul dL_judged_367 ?_
                have hsg := sgn_b (r - l) w
                have hJ368_2 : ∀ z2_0 : Int, z2_0 = (if 0 ≤ ((sgn (r - l)) * (sgn w)) then 0 else 20) → Gx (xK G M_L_judged 1 4 (judP D l r L G μ)) G M_L_judged 0 0 377 [(3, 13), (2, 45), (2, 47), (2, 46), (0, l), (0, r), (0, dN D), (1, spn D), (9, 0), (1, st9), (9, 0), (1, al), (9, 0), (0, w), (0, j), (9, 0), (9, 0), (9, 0), (9, 0), (9, 0), (9, 0), (9, 0), (9, 0), (9, 0), (9, 0)] [(0, z2_0), (0, 6 * (if 0 ≤ (r - l) - w then (r - l) - w else -((r - l) - w)))] μ := by
                  intro z2_0 hz2_0
                  refine x_iadd dL_judged_377 ?_
                  refine Gx.topE (b := slp D (r - l)) (by rw [← jslp (by omega) rfl, ← hwant]; omega) ?_
                  refine x_i2l dL_judged_378 (R32.in (by omega)) ?_
                  refine x_lstore (ls' := [(3, 13), (2, 45), (2, 47), (2, 46), (0, l), (0, r), (0, dN D), (1, spn D), (9, 0), (1, st9), (9, 0), (1, al), (9, 0), (0, w), (1, slp D (r - l)), (9, 0), (9, 0), (9, 0), (9, 0), (9, 0), (9, 0), (9, 0), (9, 0), (9, 0), (9, 0)]) dL_judged_379 (Nat.le_of_ble_eq_true rfl) rfl rfl ?_
                  exact s_L_judgedB G D nn L l r w st9 al μ hlen hL hs45 hs46 hs47 hw hD hW hlr (by rw [hst9, show i = dN D by omega]) (by rw [hal9, show i = dN D by omega]) (fun j h0 h1 => hok9 j h0 (by omega))
                have hsg := sgn_b (r - l) w
                refine x_if_ge (tgt := 376) dL_judged_368 rfl (R32.in (by omega)) (fun c368 => ?_) (fun c368 => ?_)
                · skip
                  refine x_iconst dL_judged_376 ?_
                  exact hJ368_2 _ (by first | omega | simp [*])
                · skip
                  refine x_bipush dL_judged_371 (by decide) ?_
                  refine x_goto (tgt := 377) dL_judged_373 rfl ?_
                  exact hJ368_2 _ (by first | omega | simp [*])
              · skip
                replace c281 := am_b0 c281
                refine x_aload_n dL_judged_284 rfl rfl (by first | decide | omega) ?_
                refine x_iconst dL_judged_285 ?_
                refine x_ialdx (o := 47) (n := nn) (x := way D 0) dL_judged_286 rfl hs47 (by omega) (by omega) (hW _ (by omega) (by omega)) ?_
                have hr8 := way_b D 0
                refine x_if_le (tgt := 312) dL_judged_287 rfl (R32.in (by omega)) (fun c287 => ?_) (fun c287 => ?_)
                · skip
                  refine x_aload_n dL_judged_312 rfl rfl (by first | decide | omega) ?_
                  refine x_iload dL_judged_313 rfl ?_
                  refine x_ialdx (o := 45) (n := nn) (x := dH D j) dL_judged_315 rfl hs45 (by omega) (by omega) (hD.p (by omega)) ?_
                  have hr9 := (hD.ok).hr (i := j) (by omega)
                  refine x_aload_n dL_judged_316 rfl rfl (by first | decide | omega) ?_
                  refine x_iconst dL_judged_317 ?_
                  refine x_ialdx (o := 45) (n := nn) (x := dH D 0) dL_judged_318 rfl hs45 (by omega) (by omega) (hD.p (by omega)) ?_
                  refine x_aload_n dL_judged_319 rfl rfl (by first | decide | omega) ?_
                  refine x_iload dL_judged_320 rfl ?_
                  refine x_iconst dL_judged_322 ?_
                  refine x_isub dL_judged_323 ?_
                  refine x_ialdx (o := 45) (n := nn) (x := dH D ((dN D) - 1)) dL_judged_324 rfl hs45 (by omega) (by omega) (hD.p (by omega)) ?_
                  refine x_min fL_judged_325 (R32.in (by omega)) (R32.in (by omega)) (Nat.le_of_ble_eq_true rfl) ⟨Nat.le_of_ble_eq_true rfl, Nat.le_of_ble_eq_true rfl, show 0 ≤ 1 by omega, show 0 ≤ 4 by omega⟩ ?_
                  refine x_icmp_ge (tgt := 334) dL_judged_328 rfl (R32.in (by omega)) (R32.in (by omega)) (fun c328 => ?_) (fun c328 => ?_)
                  · skip
                    refine x_iinc (ls' := [(3, 13), (2, 45), (2, 47), (2, 46), (0, l), (0, r), (0, dN D), (1, spn D), (9, 0), (1, st9), (9, 0), (1, al), (9, 0), (0, w), (0, j + 1), (9, 0), (9, 0), (9, 0), (9, 0), (9, 0), (9, 0), (9, 0), (9, 0), (9, 0), (9, 0)]) dL_judged_334 rfl (Nat.le_of_ble_eq_true rfl) rfl rfl ?_
                    refine x_goto (tgt := 268) dL_judged_337 rfl ?_
                    exact ih268 _ (by omega) w (j + 1) rfl (by first | omega | assumption) (by rw [wnt_s (by omega) hj0.1]; omega)
                  · skip
                    refine x_iconst dL_judged_331 ?_
                    refine x_istore (ls' := [(3, 13), (2, 45), (2, 47), (2, 46), (0, l), (0, r), (0, dN D), (1, spn D), (9, 0), (1, st9), (9, 0), (1, al), (9, 0), (0, 0), (0, j), (9, 0), (9, 0), (9, 0), (9, 0), (9, 0), (9, 0), (9, 0), (9, 0), (9, 0), (9, 0)]) dL_judged_332 (Nat.le_of_ble_eq_true rfl) rfl rfl ?_
                    refine x_iinc (ls' := [(3, 13), (2, 45), (2, 47), (2, 46), (0, l), (0, r), (0, dN D), (1, spn D), (9, 0), (1, st9), (9, 0), (1, al), (9, 0), (0, 0), (0, j + 1), (9, 0), (9, 0), (9, 0), (9, 0), (9, 0), (9, 0), (9, 0), (9, 0), (9, 0), (9, 0)]) dL_judged_334 rfl (Nat.le_of_ble_eq_true rfl) rfl rfl ?_
                    refine x_goto (tgt := 268) dL_judged_337 rfl ?_
                    exact ih268 _ (by omega) 0 (j + 1) rfl (by first | omega | assumption) (by rw [wnt_s (by omega) hj0.1]; omega)
                · skip
                  refine x_aload_n dL_judged_290 rfl rfl (by first | decide | omega) ?_
                  refine x_iload dL_judged_291 rfl ?_
                  refine x_ialdx (o := 45) (n := nn) (x := dH D j) dL_judged_293 rfl hs45 (by omega) (by omega) (hD.p (by omega)) ?_
                  have hr10 := (hD.ok).hr (i := j) (by omega)
                  refine x_aload_n dL_judged_294 rfl rfl (by first | decide | omega) ?_
                  refine x_iconst dL_judged_295 ?_
                  refine x_ialdx (o := 45) (n := nn) (x := dH D 0) dL_judged_296 rfl hs45 (by omega) (by omega) (hD.p (by omega)) ?_
                  refine x_aload_n dL_judged_297 rfl rfl (by first | decide | omega) ?_
                  refine x_iload dL_judged_298 rfl ?_
                  refine x_iconst dL_judged_300 ?_
                  refine x_isub dL_judged_301 ?_
                  refine x_ialdx (o := 45) (n := nn) (x := dH D ((dN D) - 1)) dL_judged_302 rfl hs45 (by omega) (by omega) (hD.p (by omega)) ?_
                  refine x_max fL_judged_303 (R32.in (by omega)) (R32.in (by omega)) (Nat.le_of_ble_eq_true rfl) ⟨Nat.le_of_ble_eq_true rfl, Nat.le_of_ble_eq_true rfl, show 0 ≤ 1 by omega, show 0 ≤ 4 by omega⟩ ?_
                  refine x_icmp_le (tgt := 334) dL_judged_306 rfl (R32.in (by omega)) (R32.in (by omega)) (fun c306 => ?_) (fun c306 => ?_)
                  · skip
                    refine x_iinc (ls' := [(3, 13), (2, 45), (2, 47), (2, 46), (0, l), (0, r), (0, dN D), (1, spn D), (9, 0), (1, st9), (9, 0), (1, al), (9, 0), (0, w), (0, j + 1), (9, 0), (9, 0), (9, 0), (9, 0), (9, 0), (9, 0), (9, 0), (9, 0), (9, 0), (9, 0)]) dL_judged_334 rfl (Nat.le_of_ble_eq_true rfl) rfl rfl ?_
                    refine x_goto (tgt := 268) dL_judged_337 rfl ?_
                    exact ih268 _ (by omega) w (j + 1) rfl (by first | omega | assumption) (by rw [wnt_s (by omega) hj0.1]; omega)
                  · skip
                    refine x_goto (tgt := 331) dL_judged_309 rfl ?_
                    refine x_iconst dL_judged_331 ?_
                    refine x_istore (ls' := [(3, 13), (2, 45), (2, 47), (2, 46), (0, l), (0, r), (0, dN D), (1, spn D), (9, 0), (1, st9), (9, 0), (1, al), (9, 0), (0, 0), (0, j), (9, 0), (9, 0), (9, 0), (9, 0), (9, 0), (9, 0), (9, 0), (9, 0), (9, 0), (9, 0)]) dL_judged_332 (Nat.le_of_ble_eq_true rfl) rfl rfl ?_
                    refine x_iinc (ls' := [(3, 13), (2, 45), (2, 47), (2, 46), (0, l), (0, r), (0, dN D), (1, spn D), (9, 0), (1, st9), (9, 0), (1, al), (9, 0), (0, 0), (0, j + 1), (9, 0), (9, 0), (9, 0), (9, 0), (9, 0), (9, 0), (9, 0), (9, 0), (9, 0), (9, 0)]) dL_judged_334 rfl (Nat.le_of_ble_eq_true rfl) rfl rfl ?_
                    refine x_goto (tgt := 268) dL_judged_337 rfl ?_
                    exact ih268 _ (by omega) 0 (j + 1) rfl (by first | omega | assumption) (by rw [wnt_s (by omega) hj0.1]; omega)
        exact hL268 _ (max (-5) (min 5 ((dH D ((dN D) - 1)) - (dH D 0)))) 1 rfl (by first | omega | assumption) (by rw [wnt_1])
      · skip
        refine x_iload dL_judged_29 rfl ?_
        refine x_i2l dL_judged_31 (R32.in (by omega)) ?_
        refine x_lload dL_judged_32 rfl ?_
        refine x_aload_n dL_judged_34 rfl rfl (by first | decide | omega) ?_
        refine x_iload dL_judged_35 rfl ?_
        refine x_ialdx (o := 46) (n := nn) (x := dX D i) dL_judged_37 rfl hs46 (by omega) (by omega) (hD.x (by omega)) ?_
        have hr11 := (hD.ok).xs (i := i) (by omega)
        refine x_i2l dL_judged_38 (R32.in (by omega)) ?_
        refine x_lsub dL_judged_39 ?_
        refine x_lmul dL_judged_40 ?_
        refine x_iload dL_judged_41 rfl ?_
        refine x_i2l dL_judged_43 (R32.in (by omega)) ?_
        refine x_aload_n dL_judged_44 rfl rfl (by first | decide | omega) ?_
        refine x_iload dL_judged_45 rfl ?_
        refine x_ialdx (o := 46) (n := nn) (x := dX D i) dL_judged_47 rfl hs46 (by omega) (by omega) (hD.x (by omega)) ?_
        refine x_i2l dL_judged_48 (R32.in (by omega)) ?_
        refine x_lmul dL_judged_49 ?_
        refine x_ladd dL_judged_50 ?_
        refine x_ldc2 (n := 2) dL_judged_51 k_1057 (by decide) ?_
        refine x_aload_n dL_judged_54 rfl rfl (by first | decide | omega) ?_
        refine x_iload dL_judged_55 rfl ?_
        refine x_ialdx (o := 45) (n := nn) (x := dH D i) dL_judged_57 rfl hs45 (by omega) (by omega) (hD.p (by omega)) ?_
        have hr12 := (hD.ok).hr (i := i) (by omega)
        refine x_i2l dL_judged_58 (R32.in (by omega)) ?_
        refine x_lmul dL_judged_59 ?_
        refine x_lload dL_judged_60 rfl ?_
        refine x_lmul dL_judged_62 ?_
        refine x_lsub dL_judged_63 ?_
        have hb64 := am_mul_b (a := l) (b := spn D - dX D i) (A := 60) (B := 2520) (by omega) (by omega)
        refine x_lstore (ls' := [(3, 13), (2, 45), (2, 47), (2, 46), (0, l), (0, r), (0, dN D), (1, spn D), (9, 0), (1, st9), (9, 0), (1, al), (9, 0), (0, i), (1, ((l * ((spn D) - (dX D i))) + (r * (dX D i))) - ((2 * (dH D i)) * (spn D))), (9, 0), (9, 0), (9, 0), (9, 0), (9, 0), (9, 0), (9, 0), (9, 0), (9, 0), (9, 0)]) dL_judged_64 (Nat.le_of_ble_eq_true rfl) rfl rfl ?_
        refine x_aload_n dL_judged_66 rfl rfl (by first | decide | omega) ?_
        refine x_iload dL_judged_67 rfl ?_
        refine x_ialdx (o := 47) (n := nn) (x := way D i) dL_judged_69 rfl hs47 (by omega) (by omega) (hW _ (by omega) (by omega)) ?_
        have hr13 := way_b D i
        have hJ70_3 : ∀ z3_0 : Int, z3_0 = (if (way D i) ≤ 0 then -(((l * ((spn D) - (dX D i))) + (r * (dX D i))) - ((2 * (dH D i)) * (spn D))) else ((l * ((spn D) - (dX D i))) + (r * (dX D i))) - ((2 * (dH D i)) * (spn D))) → Gx (xK G M_L_judged 1 4 (judP D l r L G μ)) G M_L_judged 0 0 81 [(3, 13), (2, 45), (2, 47), (2, 46), (0, l), (0, r), (0, dN D), (1, spn D), (9, 0), (1, st9), (9, 0), (1, al), (9, 0), (0, i), (1, ((l * ((spn D) - (dX D i))) + (r * (dX D i))) - ((2 * (dH D i)) * (spn D))), (9, 0), (9, 0), (9, 0), (9, 0), (9, 0), (9, 0), (9, 0), (9, 0), (9, 0), (9, 0)] [(1, z3_0)] μ := by
          intro z3_0 hz3_0
          refine Gx.topE (b := len D (r - l) l i) (by have h9 := jlen (D := D) l r i (e := l * (spn D - dX D i) + r * dX D i - 2 * dH D i * spn D) rfl; omega) ?_
          refine x_lstore (ls' := [(3, 13), (2, 45), (2, 47), (2, 46), (0, l), (0, r), (0, dN D), (1, spn D), (9, 0), (1, st9), (9, 0), (1, al), (9, 0), (0, i), (1, ((l * ((spn D) - (dX D i))) + (r * (dX D i))) - ((2 * (dH D i)) * (spn D))), (9, 0), (1, len D (r - l) l i), (9, 0), (9, 0), (9, 0), (9, 0), (9, 0), (9, 0), (9, 0), (9, 0)]) dL_judged_81 (Nat.le_of_ble_eq_true rfl) rfl rfl ?_
          have hbr0 := hok.br (i := i) (by omega)
          have hls9 : 10 ≤ lst (dB D i) ∧ lst (dB D i) ≤ 13 := lst_r _
          have hus9 : 14 ≤ usu (dB D i) ∧ usu (dB D i) ≤ 17 := usu_r _
          have hbr := hok.br (i := i) (by omega)
          have hhr := hok.hr (i := i) (by omega)
          have hlr9 := len_fr D l r i hok (by omega) hlr
          have hj1 := jb1 hok (i := i) (by omega)
          have hj2 := jb2 hok (i := i) (by omega)
          have hid9 := ideal_r hok (i := i) (by omega)
          refine x_aload_nS dL_judged_83 rfl rfl ?_
          refine x_iload dL_judged_84 rfl ?_
          refine x_callSP (as := [(3, 13), (0, i)]) (rest := []) (k := 0) fL_judged_86.g ⟨Nat.le_of_ble_eq_true rfl, Nat.le_of_ble_eq_true rfl⟩ ⟨show 0 ≤ 1 by omega, show 0 ≤ 4 by omega⟩ xK_A hw rfl rfl rfl rfl rfl (Nat.le_of_ble_eq_true rfl) ⟨nt_no (by decide), ⟨nt_no (by decide), trivial⟩⟩ (by decide) (s_L_kind G i μ hk4 (by first | omega | assumption)) ?_
          have hf14 := lkd_r G i
          refine Gx.topE (b := dB D i) (hD.b (by omega)) ?_
          refine x_istore (ls' := [(3, 13), (2, 45), (2, 47), (2, 46), (0, l), (0, r), (0, dN D), (1, spn D), (9, 0), (1, st9), (9, 0), (1, al), (9, 0), (0, i), (1, ((l * ((spn D) - (dX D i))) + (r * (dX D i))) - ((2 * (dH D i)) * (spn D))), (9, 0), (1, len D (r - l) l i), (9, 0), (0, dB D i), (9, 0), (9, 0), (9, 0), (9, 0), (9, 0), (9, 0)]) dL_judged_89 (Nat.le_of_ble_eq_true rfl) rfl rfl ?_
          refine x_lload dL_judged_91 rfl ?_
          refine x_lload dL_judged_93 rfl ?_
          refine x_iload dL_judged_95 rfl ?_
          refine x_iconst dL_judged_97 ?_
          have hJ98_4 : ∀ z4_0 : Int, z4_0 = (if ¬ (dB D i) = 1 then (if ¬ (dB D i) = 2 then 13 else 11) else 10) → Gx (xK G M_L_judged 1 4 (judP D l r L G μ)) G M_L_judged 0 0 119 [(3, 13), (2, 45), (2, 47), (2, 46), (0, l), (0, r), (0, dN D), (1, spn D), (9, 0), (1, st9), (9, 0), (1, al), (9, 0), (0, i), (1, ((l * ((spn D) - (dX D i))) + (r * (dX D i))) - ((2 * (dH D i)) * (spn D))), (9, 0), (1, len D (r - l) l i), (9, 0), (0, dB D i), (9, 0), (9, 0), (9, 0), (9, 0), (9, 0), (9, 0)] [(0, z4_0), (1, spn D), (1, len D (r - l) l i)] μ := by
            intro z4_0 hz4_0
            refine Gx.topE (b := lst (dB D i)) (by first | exact jlst hbr | (rw [← jlst hbr]; omega)) ?_
            refine x_i2l dL_judged_119 (R32.in (by omega)) ?_
            refine x_lmul dL_judged_120 ?_
            refine x_lc_lt (tgt := 137) dL_judged_121 dL_judged_122 rfl (R64.in (by omega)) (R64.in (by omega)) (fun c122 => ?_) (fun c122 => ?_)
            · skip
              refine x_null dL_judged_137 ?_
              exact x_aret dL_judged_138 rfl (Or.inr ⟨_, rfl⟩) ⟨by omega, by omega⟩ Xt.rf (Or.inl ⟨(fun hal => by have h9 := hal i hi0.1 (by omega); unfold okN at h9; omega), rfl, rfl, rfl⟩)
            · skip
              refine x_lload dL_judged_125 rfl ?_
              refine x_ldc2 (n := 44) dL_judged_127 k_1058 (by decide) ?_
              refine x_lload dL_judged_130 rfl ?_
              refine x_lmul dL_judged_132 ?_
              refine x_lc_le (tgt := 139) dL_judged_133 dL_judged_134 rfl (R64.in (by omega)) (R64.in (by omega)) (fun c134 => ?_) (fun c134 => ?_)
              · skip
                refine x_iload dL_judged_139 rfl ?_
                refine x_iconst dL_judged_141 ?_
                have hJ142_5 : ∀ z5_0 : Int, z5_0 = (if ¬ (dB D i) = 1 then (if ¬ (dB D i) = 2 then 17 else 15) else 14) → Gx (xK G M_L_judged 1 4 (judP D l r L G μ)) G M_L_judged 0 0 163 [(3, 13), (2, 45), (2, 47), (2, 46), (0, l), (0, r), (0, dN D), (1, spn D), (9, 0), (1, st9), (9, 0), (1, al), (9, 0), (0, i), (1, ((l * ((spn D) - (dX D i))) + (r * (dX D i))) - ((2 * (dH D i)) * (spn D))), (9, 0), (1, len D (r - l) l i), (9, 0), (0, dB D i), (9, 0), (9, 0), (9, 0), (9, 0), (9, 0), (9, 0)] [(0, z5_0)] μ := by
                  intro z5_0 hz5_0
                  refine Gx.topE (b := usu (dB D i)) (by first | exact jusu hbr | (rw [← jusu hbr]; omega)) ?_
                  refine x_aload_n dL_judged_163 rfl rfl (by first | decide | omega) ?_
                  refine x_iload dL_judged_164 rfl ?_
                  refine x_ialdx (o := 47) (n := nn) (x := way D i) dL_judged_166 rfl hs47 (by omega) (by omega) (hW _ (by omega) (by omega)) ?_
                  have hJ167_6 : ∀ z6_0 : Int, z6_0 = (if (way D i) ≤ 0 then 2 * (dH D i) else (-2) * (dH D i)) → Gx (xK G M_L_judged 1 4 (judP D l r L G μ)) G M_L_judged 0 0 186 [(3, 13), (2, 45), (2, 47), (2, 46), (0, l), (0, r), (0, dN D), (1, spn D), (9, 0), (1, st9), (9, 0), (1, al), (9, 0), (0, i), (1, ((l * ((spn D) - (dX D i))) + (r * (dX D i))) - ((2 * (dH D i)) * (spn D))), (9, 0), (1, len D (r - l) l i), (9, 0), (0, dB D i), (9, 0), (9, 0), (9, 0), (9, 0), (9, 0), (9, 0)] [(0, z6_0), (0, usu (dB D i))] μ := by
                    intro z6_0 hz6_0
                    refine x_max fL_judged_186 (R32.in (by omega)) (R32.in (by omega)) (Nat.le_of_ble_eq_true rfl) ⟨Nat.le_of_ble_eq_true rfl, Nat.le_of_ble_eq_true rfl, show 0 ≤ 1 by omega, show 0 ≤ 4 by omega⟩ ?_
                    refine Gx.topE (b := ideal D i) (jidl hhr (by constructor <;> intro q9 <;> omega)) ?_
                    refine x_i2l dL_judged_189 (R32.in (by omega)) ?_
                    refine x_lstore (ls' := [(3, 13), (2, 45), (2, 47), (2, 46), (0, l), (0, r), (0, dN D), (1, spn D), (9, 0), (1, st9), (9, 0), (1, al), (9, 0), (0, i), (1, ((l * ((spn D) - (dX D i))) + (r * (dX D i))) - ((2 * (dH D i)) * (spn D))), (9, 0), (1, len D (r - l) l i), (9, 0), (0, dB D i), (1, ideal D i), (9, 0), (9, 0), (9, 0), (9, 0), (9, 0)]) dL_judged_190 (Nat.le_of_ble_eq_true rfl) rfl rfl ?_
                    refine x_lload dL_judged_192 rfl ?_
                    refine x_lload dL_judged_194 rfl ?_
                    refine x_lload dL_judged_196 rfl ?_
                    refine x_lload dL_judged_198 rfl ?_
                    refine x_lmul dL_judged_200 ?_
                    refine x_lc_ge (tgt := 220) dL_judged_201 dL_judged_202 rfl (R64.in (by omega)) (R64.in (by omega)) (fun c202 => ?_) (fun c202 => ?_)
                    · skip
                      refine x_lload dL_judged_220 rfl ?_
                      refine x_lload dL_judged_222 rfl ?_
                      refine x_lload dL_judged_224 rfl ?_
                      refine x_lmul dL_judged_226 ?_
                      refine x_lsub dL_judged_227 ?_
                      refine x_ladd dL_judged_228 ?_
                      refine x_lstore (ls' := [(3, 13), (2, 45), (2, 47), (2, 46), (0, l), (0, r), (0, dN D), (1, spn D), (9, 0), (1, st9 + ((len D (r - l) l i) - ((ideal D i) * (spn D)))), (9, 0), (1, al), (9, 0), (0, i), (1, ((l * ((spn D) - (dX D i))) + (r * (dX D i))) - ((2 * (dH D i)) * (spn D))), (9, 0), (1, len D (r - l) l i), (9, 0), (0, dB D i), (1, ideal D i), (9, 0), (9, 0), (9, 0), (9, 0), (9, 0)]) dL_judged_229 (Nat.le_of_ble_eq_true rfl) rfl rfl ?_
                      refine x_lload dL_judged_231 rfl ?_
                      refine x_lload dL_judged_233 rfl ?_
                      refine x_ladd dL_judged_235 ?_
                      refine x_lstore (ls' := [(3, 13), (2, 45), (2, 47), (2, 46), (0, l), (0, r), (0, dN D), (1, spn D), (9, 0), (1, st9 + ((len D (r - l) l i) - ((ideal D i) * (spn D)))), (9, 0), (1, al + (len D (r - l) l i)), (9, 0), (0, i), (1, ((l * ((spn D) - (dX D i))) + (r * (dX D i))) - ((2 * (dH D i)) * (spn D))), (9, 0), (1, len D (r - l) l i), (9, 0), (0, dB D i), (1, ideal D i), (9, 0), (9, 0), (9, 0), (9, 0), (9, 0)]) dL_judged_236 (Nat.le_of_ble_eq_true rfl) rfl rfl ?_
                      refine x_iinc (ls' := [(3, 13), (2, 45), (2, 47), (2, 46), (0, l), (0, r), (0, dN D), (1, spn D), (9, 0), (1, st9 + ((len D (r - l) l i) - ((ideal D i) * (spn D)))), (9, 0), (1, al + (len D (r - l) l i)), (9, 0), (0, i + 1), (1, ((l * ((spn D) - (dX D i))) + (r * (dX D i))) - ((2 * (dH D i)) * (spn D))), (9, 0), (1, len D (r - l) l i), (9, 0), (0, dB D i), (1, ideal D i), (9, 0), (9, 0), (9, 0), (9, 0), (9, 0)]) dL_judged_238 rfl (Nat.le_of_ble_eq_true rfl) rfl rfl ?_
                      refine x_goto (tgt := 22) dL_judged_241 rfl ?_
                      refine Gx.fgl (ls' := [(3, 13), (2, 45), (2, 47), (2, 46), (0, l), (0, r), (0, dN D), (1, spn D), (9, 0), (1, st9 + ((len D (r - l) l i) - ((ideal D i) * (spn D)))), (9, 0), (1, al + (len D (r - l) l i)), (9, 0), (0, i + 1), (9, 0), (9, 0), (1, len D (r - l) l i), (9, 0), (0, dB D i), (1, ideal D i), (9, 0), (9, 0), (9, 0), (9, 0), (9, 0)]) 14 rfl ?_
                      refine Gx.fgl (ls' := [(3, 13), (2, 45), (2, 47), (2, 46), (0, l), (0, r), (0, dN D), (1, spn D), (9, 0), (1, st9 + ((len D (r - l) l i) - ((ideal D i) * (spn D)))), (9, 0), (1, al + (len D (r - l) l i)), (9, 0), (0, i + 1), (9, 0), (9, 0), (9, 0), (9, 0), (0, dB D i), (1, ideal D i), (9, 0), (9, 0), (9, 0), (9, 0), (9, 0)]) 16 rfl ?_
                      refine Gx.fgl (ls' := [(3, 13), (2, 45), (2, 47), (2, 46), (0, l), (0, r), (0, dN D), (1, spn D), (9, 0), (1, st9 + ((len D (r - l) l i) - ((ideal D i) * (spn D)))), (9, 0), (1, al + (len D (r - l) l i)), (9, 0), (0, i + 1), (9, 0), (9, 0), (9, 0), (9, 0), (9, 0), (1, ideal D i), (9, 0), (9, 0), (9, 0), (9, 0), (9, 0)]) 18 rfl ?_
                      refine Gx.fgl (ls' := [(3, 13), (2, 45), (2, 47), (2, 46), (0, l), (0, r), (0, dN D), (1, spn D), (9, 0), (1, st9 + ((len D (r - l) l i) - ((ideal D i) * (spn D)))), (9, 0), (1, al + (len D (r - l) l i)), (9, 0), (0, i + 1), (9, 0), (9, 0), (9, 0), (9, 0), (9, 0), (9, 0), (9, 0), (9, 0), (9, 0), (9, 0), (9, 0)]) 19 rfl ?_
                      exact ih22 _ (by omega) (st9 + ((len D (r - l) l i) - ((ideal D i) * (spn D)))) (al + (len D (r - l) l i)) (i + 1) rfl (by first | omega | assumption) (by rw [ssu_s hi0.1, hst9]; first | rw [joff (by omega)] | rw [joff' (by omega)]) (by rw [lsu_s hi0.1, hal9]) (fun j h1 h2 => if hji : j = i then (by rw [hji]; exact ⟨by omega, by omega⟩) else hok9 j h1 (by omega))
                    · skip
                      refine x_ldc2 (n := 2) dL_judged_205 k_1057 (by decide) ?_
                      refine x_lload dL_judged_208 rfl ?_
                      refine x_lload dL_judged_210 rfl ?_
                      refine x_lmul dL_judged_212 ?_
                      refine x_lload dL_judged_213 rfl ?_
                      refine x_lsub dL_judged_215 ?_
                      refine x_lmul dL_judged_216 ?_
                      refine x_goto (tgt := 228) dL_judged_217 rfl ?_
                      refine x_ladd dL_judged_228 ?_
                      refine x_lstore (ls' := [(3, 13), (2, 45), (2, 47), (2, 46), (0, l), (0, r), (0, dN D), (1, spn D), (9, 0), (1, st9 + (2 * (((ideal D i) * (spn D)) - (len D (r - l) l i)))), (9, 0), (1, al), (9, 0), (0, i), (1, ((l * ((spn D) - (dX D i))) + (r * (dX D i))) - ((2 * (dH D i)) * (spn D))), (9, 0), (1, len D (r - l) l i), (9, 0), (0, dB D i), (1, ideal D i), (9, 0), (9, 0), (9, 0), (9, 0), (9, 0)]) dL_judged_229 (Nat.le_of_ble_eq_true rfl) rfl rfl ?_
                      refine x_lload dL_judged_231 rfl ?_
                      refine x_lload dL_judged_233 rfl ?_
                      refine x_ladd dL_judged_235 ?_
                      refine x_lstore (ls' := [(3, 13), (2, 45), (2, 47), (2, 46), (0, l), (0, r), (0, dN D), (1, spn D), (9, 0), (1, st9 + (2 * (((ideal D i) * (spn D)) - (len D (r - l) l i)))), (9, 0), (1, al + (len D (r - l) l i)), (9, 0), (0, i), (1, ((l * ((spn D) - (dX D i))) + (r * (dX D i))) - ((2 * (dH D i)) * (spn D))), (9, 0), (1, len D (r - l) l i), (9, 0), (0, dB D i), (1, ideal D i), (9, 0), (9, 0), (9, 0), (9, 0), (9, 0)]) dL_judged_236 (Nat.le_of_ble_eq_true rfl) rfl rfl ?_
                      refine x_iinc (ls' := [(3, 13), (2, 45), (2, 47), (2, 46), (0, l), (0, r), (0, dN D), (1, spn D), (9, 0), (1, st9 + (2 * (((ideal D i) * (spn D)) - (len D (r - l) l i)))), (9, 0), (1, al + (len D (r - l) l i)), (9, 0), (0, i + 1), (1, ((l * ((spn D) - (dX D i))) + (r * (dX D i))) - ((2 * (dH D i)) * (spn D))), (9, 0), (1, len D (r - l) l i), (9, 0), (0, dB D i), (1, ideal D i), (9, 0), (9, 0), (9, 0), (9, 0), (9, 0)]) dL_judged_238 rfl (Nat.le_of_ble_eq_true rfl) rfl rfl ?_
                      refine x_goto (tgt := 22) dL_judged_241 rfl ?_
                      refine Gx.fgl (ls' := [(3, 13), (2, 45), (2, 47), (2, 46), (0, l), (0, r), (0, dN D), (1, spn D), (9, 0), (1, st9 + (2 * (((ideal D i) * (spn D)) - (len D (r - l) l i)))), (9, 0), (1, al + (len D (r - l) l i)), (9, 0), (0, i + 1), (9, 0), (9, 0), (1, len D (r - l) l i), (9, 0), (0, dB D i), (1, ideal D i), (9, 0), (9, 0), (9, 0), (9, 0), (9, 0)]) 14 rfl ?_
                      refine Gx.fgl (ls' := [(3, 13), (2, 45), (2, 47), (2, 46), (0, l), (0, r), (0, dN D), (1, spn D), (9, 0), (1, st9 + (2 * (((ideal D i) * (spn D)) - (len D (r - l) l i)))), (9, 0), (1, al + (len D (r - l) l i)), (9, 0), (0, i + 1), (9, 0), (9, 0), (9, 0), (9, 0), (0, dB D i), (1, ideal D i), (9, 0), (9, 0), (9, 0), (9, 0), (9, 0)]) 16 rfl ?_
                      refine Gx.fgl (ls' := [(3, 13), (2, 45), (2, 47), (2, 46), (0, l), (0, r), (0, dN D), (1, spn D), (9, 0), (1, st9 + (2 * (((ideal D i) * (spn D)) - (len D (r - l) l i)))), (9, 0), (1, al + (len D (r - l) l i)), (9, 0), (0, i + 1), (9, 0), (9, 0), (9, 0), (9, 0), (9, 0), (1, ideal D i), (9, 0), (9, 0), (9, 0), (9, 0), (9, 0)]) 18 rfl ?_
                      refine Gx.fgl (ls' := [(3, 13), (2, 45), (2, 47), (2, 46), (0, l), (0, r), (0, dN D), (1, spn D), (9, 0), (1, st9 + (2 * (((ideal D i) * (spn D)) - (len D (r - l) l i)))), (9, 0), (1, al + (len D (r - l) l i)), (9, 0), (0, i + 1), (9, 0), (9, 0), (9, 0), (9, 0), (9, 0), (9, 0), (9, 0), (9, 0), (9, 0), (9, 0), (9, 0)]) 19 rfl ?_
                      exact ih22 _ (by omega) (st9 + (2 * (((ideal D i) * (spn D)) - (len D (r - l) l i)))) (al + (len D (r - l) l i)) (i + 1) rfl (by first | omega | assumption) (by rw [ssu_s hi0.1, hst9]; first | rw [joff (by omega)] | rw [joff' (by omega)]) (by rw [lsu_s hi0.1, hal9]) (fun j h1 h2 => if hji : j = i then (by rw [hji]; exact ⟨by omega, by omega⟩) else hok9 j h1 (by omega))
                  refine x_if_le (tgt := 180) dL_judged_167 rfl (R32.in (by omega)) (fun c167 => ?_) (fun c167 => ?_)
                  · skip
                    refine x_iconst dL_judged_180 ?_
                    refine x_aload_n dL_judged_181 rfl rfl (by first | decide | omega) ?_
                    refine x_iload dL_judged_182 rfl ?_
                    refine x_ialdx (o := 45) (n := nn) (x := dH D i) dL_judged_184 rfl hs45 (by omega) (by omega) (hD.p (by omega)) ?_
                    refine x_imul dL_judged_185 ?_
                    exact hJ167_6 _ (by first | omega | simp [*])
                  · skip
                    refine x_bipush dL_judged_170 (by decide) ?_
                    refine x_aload_n dL_judged_172 rfl rfl (by first | decide | omega) ?_
                    refine x_iload dL_judged_173 rfl ?_
                    refine x_ialdx (o := 45) (n := nn) (x := dH D i) dL_judged_175 rfl hs45 (by omega) (by omega) (hD.p (by omega)) ?_
                    refine x_imul dL_judged_176 ?_
                    refine x_goto (tgt := 186) dL_judged_177 rfl ?_
                    exact hJ167_6 _ (by first | omega | simp [*])
                refine x_icmp_ne (tgt := 150) dL_judged_142 rfl (R32.in (by omega)) (R32.in (by decide)) (fun c142 => ?_) (fun c142 => ?_)
                · skip
                  refine x_iload dL_judged_150 rfl ?_
                  refine x_iconst dL_judged_152 ?_
                  refine x_icmp_ne (tgt := 161) dL_judged_153 rfl (R32.in (by omega)) (R32.in (by decide)) (fun c153 => ?_) (fun c153 => ?_)
                  · skip
                    refine x_bipush dL_judged_161 (by decide) ?_
                    exact hJ142_5 _ (by first | omega | simp [*])
                  · skip
                    refine x_bipush dL_judged_156 (by decide) ?_
                    refine x_goto (tgt := 163) dL_judged_158 rfl ?_
                    exact hJ142_5 _ (by first | omega | simp [*])
                · skip
                  refine x_bipush dL_judged_145 (by decide) ?_
                  refine x_goto (tgt := 163) dL_judged_147 rfl ?_
                  exact hJ142_5 _ (by first | omega | simp [*])
              · skip
                refine x_null dL_judged_137 ?_
                exact x_aret dL_judged_138 rfl (Or.inr ⟨_, rfl⟩) ⟨by omega, by omega⟩ Xt.rf (Or.inl ⟨(fun hal => by have h9 := hal i hi0.1 (by omega); unfold okN at h9; omega), rfl, rfl, rfl⟩)
          refine x_icmp_ne (tgt := 106) dL_judged_98 rfl (R32.in (by omega)) (R32.in (by decide)) (fun c98 => ?_) (fun c98 => ?_)
          · skip
            refine x_iload dL_judged_106 rfl ?_
            refine x_iconst dL_judged_108 ?_
            refine x_icmp_ne (tgt := 117) dL_judged_109 rfl (R32.in (by omega)) (R32.in (by decide)) (fun c109 => ?_) (fun c109 => ?_)
            · skip
              refine x_bipush dL_judged_117 (by decide) ?_
              exact hJ98_4 _ (by first | omega | simp [*])
            · skip
              refine x_bipush dL_judged_112 (by decide) ?_
              refine x_goto (tgt := 119) dL_judged_114 rfl ?_
              exact hJ98_4 _ (by first | omega | simp [*])
          · skip
            refine x_bipush dL_judged_101 (by decide) ?_
            refine x_goto (tgt := 119) dL_judged_103 rfl ?_
            exact hJ98_4 _ (by first | omega | simp [*])
        refine x_if_le (tgt := 78) dL_judged_70 rfl (R32.in (by omega)) (fun c70 => ?_) (fun c70 => ?_)
        · skip
          refine x_lload dL_judged_78 rfl ?_
          refine x_lneg dL_judged_80 ?_
          exact hJ70_3 _ (by first | omega | simp [*])
        · skip
          refine x_lload dL_judged_73 rfl ?_
          refine x_goto (tgt := 81) dL_judged_75 rfl ?_
          exact hJ70_3 _ (by first | omega | simp [*])
  exact hL22 _ 0 0 0 rfl (by first | omega | assumption) rfl rfl (fun j h1 h2 => by omega)
