/-! ===== The law's isBest ===== -/
theorem rowJ.cg {D : GDt} {l r o : Int} {μ μ1 : Mu} (h : rowJ μ o D l r) (e : ∀ q : Int, o ≤ q ∧ q ≤ o → μ1 q = μ q) : rowJ μ1 o D l r := by
  have := e o (by omega)
  unfold rowJ at h ⊢
  rw [this]
  exact h
theorem rowJ_b {D : GDt} {l r o : Int} {μ : Mu} (hok : GOK D) (h : rowJ μ o D l r) (ha : alw D (r - l) l) (hlr : (-60 ≤ l ∧ l ≤ 60) ∧ (-60 ≤ r ∧ r ≤ 60) ∧ (-8 ≤ r - l ∧ r - l ≤ 8)) :
    ((0 ≤ μ o 0 ∧ μ o 0 ≤ 100000000) ∧ (0 ≤ μ o 1 ∧ μ o 1 ≤ 100000000)) ∧ ((0 ≤ μ o 2 ∧ μ o 2 ≤ 100000000) ∧ (-100000000 ≤ μ o 3 ∧ μ o 3 ≤ 100000000)) := by
  have h1 := stm_a hok ha
  have h2 := slp_f D (r - l) hlr.2.2
  have h3 := stf_f D (r - l) l hok
  have h4 := lns_r hok ha
  rw [h.1.1, h.1.2, h.2.1, h.2.2]
  omega

theorem s_L_isAheadJ49 (G : AG) (D : GDt) (l r l2 r2 : Int) (μ : Mu) (hok : GOK D) (hs49 : (gS G)[49]? = some (23, 4)) (hs48 : (gS G)[48]? = some (23, 4)) (hJ : rowJ μ 49 D l r) (hJ2 : rowJ μ 48 D l2 r2) (a1 : alw D (r - l) l) (a2 : alw D (r2 - l2) l2)
    (h1 : (-60 ≤ l ∧ l ≤ 60) ∧ (-60 ≤ r ∧ r ≤ 60) ∧ (-8 ≤ r - l ∧ r - l ≤ 8)) (h2 : (-60 ≤ l2 ∧ l2 ≤ 60) ∧ (-60 ≤ r2 ∧ r2 ≤ 60) ∧ (-8 ≤ r2 - l2 ∧ r2 - l2 ≤ 8)) :
    Wp G M_L_isAhead 0 [(2, 49), (0, l), (0, r), (2, 48), (0, l2), (0, r2), (0, way D 0), (9, 0), (9, 0), (9, 0), (9, 0)] [] μ (pP 0 (am_b (keyq D (l, r) < keyq D (l2, r2))) μ) := by
  refine (s_L_isAhead49 G l r l2 r2 (way D 0) μ hs49 hs48 (rowJ_b hok hJ a1 h1) (rowJ_b hok hJ2 a2 h2) ⟨h1.1, h1.2.1⟩ ⟨h2.1, h2.2.1⟩ (way_b D 0)).toP ?_
  rw [hJ.1.1, hJ.1.2, hJ.2.1, hJ.2.2, hJ2.1.1, hJ2.1.2, hJ2.2.1, hJ2.2.2]
  exact ah_key hok h1 a1 h2 a2

theorem s_L_isAheadJ50 (G : AG) (D : GDt) (l r l2 r2 : Int) (μ : Mu) (hok : GOK D) (hs50 : (gS G)[50]? = some (23, 4)) (hs49 : (gS G)[49]? = some (23, 4)) (hJ : rowJ μ 50 D l r) (hJ2 : rowJ μ 49 D l2 r2) (a1 : alw D (r - l) l) (a2 : alw D (r2 - l2) l2)
    (h1 : (-60 ≤ l ∧ l ≤ 60) ∧ (-60 ≤ r ∧ r ≤ 60) ∧ (-8 ≤ r - l ∧ r - l ≤ 8)) (h2 : (-60 ≤ l2 ∧ l2 ≤ 60) ∧ (-60 ≤ r2 ∧ r2 ≤ 60) ∧ (-8 ≤ r2 - l2 ∧ r2 - l2 ≤ 8)) :
    Wp G M_L_isAhead 0 [(2, 50), (0, l), (0, r), (2, 49), (0, l2), (0, r2), (0, way D 0), (9, 0), (9, 0), (9, 0), (9, 0)] [] μ (pP 0 (am_b (keyq D (l, r) < keyq D (l2, r2))) μ) := by
  refine (s_L_isAhead50 G l r l2 r2 (way D 0) μ hs50 hs49 (rowJ_b hok hJ a1 h1) (rowJ_b hok hJ2 a2 h2) ⟨h1.1, h1.2.1⟩ ⟨h2.1, h2.2.1⟩ (way_b D 0)).toP ?_
  rw [hJ.1.1, hJ.1.2, hJ.2.1, hJ.2.2, hJ2.1.1, hJ2.1.2, hJ2.2.1, hJ2.2.2]
  exact ah_key hok h1 a1 h2 a2

theorem cnD_b (D : GDt) : 0 ≤ cnD D ∧ cnD D ≤ 14762 := by
  have h := @sN_len D 61 (-60) (by decide) (by decide)
  rw [sN_end] at h
  rw [← setsD_cn]
  omega
theorem ms_lt {n : Nat} {i k : Int} (h : (k - i).toNat = n) (h2 : i < k) : (k - (i + 1)).toNat < n := by omega
section fnl
variable {D : GDt} {l r a bl br k q : Int}
theorem fnN_row (h : fnN (sN D l r) a) (hl : -60 ≤ l ∧ l ≤ 60) (hr : -60 ≤ r ∧ r ≤ 61) (hx : ∀ x, r ≤ x → x < 61 → l + 8 < x) : fnN (sN D (l + 1) (-60)) a := by rw [sN_row hl hr hx]; exact h
theorem fnN_beg (h : fnN (sN D l (-60)) a) (hl : -60 ≤ l ∧ l ≤ 60) : fnN (sN D l (max (-60) (l - 8))) a := by rw [sN_beg hl]; exact h
theorem fnN_n (h : fnN (sN D l r) a) (hl : -60 ≤ l ∧ l ≤ 60) (hr : -60 ≤ r ∧ r ≤ 60) (hx : ¬ ((-8 ≤ r - l ∧ r - l ≤ 8) ∧ alwB D (r - l) l = true)) : fnN (sN D l (r + 1)) a := by rw [sN_n hl hr hx]; exact h
theorem fnY_row (h : fnY D (sN D l r) a bl br) (hl : -60 ≤ l ∧ l ≤ 60) (hr : -60 ≤ r ∧ r ≤ 61) (hx : ∀ x, r ≤ x → x < 61 → l + 8 < x) : fnY D (sN D (l + 1) (-60)) a bl br := by rw [sN_row hl hr hx]; exact h
theorem fnY_beg (h : fnY D (sN D l (-60)) a bl br) (hl : -60 ≤ l ∧ l ≤ 60) : fnY D (sN D l (max (-60) (l - 8))) a bl br := by rw [sN_beg hl]; exact h
theorem fnY_n (h : fnY D (sN D l r) a bl br) (hl : -60 ≤ l ∧ l ≤ 60) (hr : -60 ≤ r ∧ r ≤ 60) (hx : ¬ ((-8 ≤ r - l ∧ r - l ≤ 8) ∧ alwB D (r - l) l = true)) : fnY D (sN D l (r + 1)) a bl br := by rw [sN_n hl hr hx]; exact h
theorem fnY_y (h : fnY D (sN D l r ++ [(l, r)]) a bl br) (hl : -60 ≤ l ∧ l ≤ 60) (hr : -60 ≤ r ∧ r ≤ 60) (h1 : -8 ≤ r - l ∧ r - l ≤ 8) (h2 : alwB D (r - l) l = true) : fnY D (sN D l (r + 1)) a bl br := by rw [sN_y hl hr h1 h2]; exact h
theorem cn_row (h : k = cnB D (sN D l r) q) (hl : -60 ≤ l ∧ l ≤ 60) (hr : -60 ≤ r ∧ r ≤ 61) (hx : ∀ x, r ≤ x → x < 61 → l + 8 < x) : k = cnB D (sN D (l + 1) (-60)) q := by rw [sN_row hl hr hx]; exact h
theorem cn_beg (h : k = cnB D (sN D l (-60)) q) (hl : -60 ≤ l ∧ l ≤ 60) : k = cnB D (sN D l (max (-60) (l - 8))) q := by rw [sN_beg hl]; exact h
theorem cn_n (h : k = cnB D (sN D l r) q) (hl : -60 ≤ l ∧ l ≤ 60) (hr : -60 ≤ r ∧ r ≤ 60) (hx : ¬ ((-8 ≤ r - l ∧ r - l ≤ 8) ∧ alwB D (r - l) l = true)) : k + 0 = cnB D (sN D l (r + 1)) q := by rw [sN_n hl hr hx, Int.add_zero]; exact h
theorem cn_y1 (h : k = cnB D (sN D l r) q) (hl : -60 ≤ l ∧ l ≤ 60) (hr : -60 ≤ r ∧ r ≤ 60) (h1 : -8 ≤ r - l ∧ r - l ≤ 8) (h2 : alwB D (r - l) l = true) (hk : keyq D (l, r) < q) : k + 1 = cnB D (sN D l (r + 1)) q := by rw [sN_y hl hr h1 h2, cnB_s, if_pos hk, h]
theorem cn_y0 (h : k = cnB D (sN D l r) q) (hl : -60 ≤ l ∧ l ≤ 60) (hr : -60 ≤ r ∧ r ≤ 60) (h1 : -8 ≤ r - l ∧ r - l ≤ 8) (h2 : alwB D (r - l) l = true) (hk : ¬ keyq D (l, r) < q) : k + 0 = cnB D (sN D l (r + 1)) q := by rw [sN_y hl hr h1 h2, cnB_s, if_neg hk, h]
end fnl
def ibP (G : AG) (μ : Mu) : AG → Option AV → Mu → Prop := fun G' r μ' => G' = G ∧ r = some (0, 1) ∧ ∀ o : Int, o ≤ 45 → ¬ (6 ≤ o ∧ o ≤ 19) → μ' o = μ o
theorem Fr.ib {a : Int} {μ2 μ1 μ : Mu} (h : Fr a 60 1 0 μ2 μ1) (ha : 46 ≤ a) (h0 : ∀ o : Int, o ≤ 45 → ¬ (6 ≤ o ∧ o ≤ 19) → μ1 o = μ o) : ∀ o : Int, o ≤ 45 → ¬ (6 ≤ o ∧ o ≤ 19) → μ2 o = μ o := fun o h1 h2 => (h.at (by omega) (by omega)).trans (h0 o h1 h2)
theorem seti {f : Int → Int} {μ : Mu} {o i v : Int} (h : ∀ j : Int, 0 ≤ j → j < i → μ o j = f j) (hv : v = f i) : ∀ j : Int, 0 ≤ j → j < i + 1 → (am_up μ o i v) o j = f j := by
  intro j h0 h1
  by_cases he : j = i
  · subst he; rw [am_up_at, hv]
  · rw [am_up_nk he]; exact h j h0 (by omega)

set_option maxRecDepth 100000 in
set_option maxHeartbeats 4000000 in
theorem s_L_isBestC (G : AG) (X : AX) (p : Int) (D : GDt) (nn : Nat) (bl : Int) (br : Int) (al : Int) (cc : Nat) (G0 : AG) (P : AG → Option AV → Mu → Prop) (μ : Mu) (hlen49 : (gS G).length = 49) (hX49 : Xt (GG X) G) (hA49 : ARR G) (hs45 : (gS G)[45]? = some (20, nn)) (hs46 : (gS G)[46]? = some (20, nn)) (hs47 : (gS G)[47]? = some (20, nn)) (hs48 : (gS G)[48]? = some (23, 4)) (hD : GD μ p D nn) (hLD : LD G D nn μ) (hW : LW D μ) (hbb : (-60 ≤ bl ∧ bl ≤ 60) ∧ (-60 ≤ br ∧ br ≤ 60)) (hal9 : al = cnD D) (hcc : (cc : Int) ≤ 5000) (hend : ∀ (cs ss : Nat) (μ1 : Mu), cs ≤ 30000 → ss ≤ 130000 → Fr 6 19 49 60 μ1 μ → Gx (xK G0 M_L_isBest 30000 130000 P) G M_L_isBest cs ss 744 [(9, 0), (9, 0), (9, 0), (9, 0), (9, 0), (9, 0), (9, 0), (9, 0), (9, 0), (9, 0), (9, 0), (9, 0), (9, 0), (9, 0), (9, 0), (9, 0), (9, 0), (9, 0)] [(0, 1)] μ1) : Gx (xK G0 M_L_isBest 30000 130000 P) G M_L_isBest cc (4 * (cc) + 64) 404 [(2, 0), (3, 13), (2, 45), (0, dN D), (2, 46), (2, 47), (0, bl), (0, br), (0, al), (2, 48), (9, 0), (9, 0), (9, 0), (9, 0), (9, 0), (9, 0), (9, 0), (9, 0)] [] μ := by
  have hok := hLD.ok
  have hn := hok.n
  have hnn := hLD.n_n
  have hkn := hLD.kn
  have hk4 := hkn.2
  have hpp := hD.at
  have hcn := cnD_b D
  refine x_iconst dL_isBest_404 ?_
  refine x_istore (ls' := [(2, 0), (3, 13), (2, 45), (0, dN D), (2, 46), (2, 47), (0, bl), (0, br), (0, al), (2, 48), (0, 0), (9, 0), (9, 0), (9, 0), (9, 0), (9, 0), (9, 0), (9, 0)]) dL_isBest_405 (Nat.le_of_ble_eq_true rfl) rfl rfl ?_
  have hL407 : ∀ (n407 : Nat) (st : Int) (cs9 : Nat) (μs : Mu), (4 - st).toNat = n407 → Fr 6 19 49 60 μs μ → (0 ≤ st ∧ st ≤ 4) → ((cs9 : Int) ≤ 5000 + 5000 * st) → Gx (xK G0 M_L_isBest 30000 130000 P) G M_L_isBest cs9 (4 * cs9 + 64) 407 [(2, 0), (3, 13), (2, 45), (0, dN D), (2, 46), (2, 47), (0, bl), (0, br), (0, al), (2, 48), (0, st), (9, 0), (9, 0), (9, 0), (9, 0), (9, 0), (9, 0), (9, 0)] [] μs := by
    intro n407
    induction n407 using Nat.strongRecOn with
    | ind n407 ih407 =>
      intro st cs9 μs hn407 hF407 hs0 hcs
      refine x_iload dL_isBest_407 rfl ?_
      refine x_iconst dL_isBest_409 ?_
      refine x_icmp_ge (tgt := 726) dL_isBest_410 rfl (R32.in (by omega)) (R32.in (by decide)) (fun c410 => ?_) (fun c410 => ?_)
      · skip
        refine x_aload_n dL_isBest_726 rfl rfl (by first | decide | omega) ?_
        refine x_iconst dL_isBest_727 ?_
        refine x_iload dL_isBest_728 rfl ?_
        refine x_iconst dL_isBest_730 ?_
        refine x_callVI (o := 0) (ci := 7) (as := [(0, 0), (0, al), (0, 0)]) (rest := []) (k := 0) (Gs := GG X) fL_isBest_731.g ⟨Nat.le_of_ble_eq_true rfl, Nat.le_of_ble_eq_true rfl⟩ ⟨show cs9 ≤ 30000 by omega, show 4 * cs9 + 64 ≤ 130000 by omega⟩ xK_A hX49 (wf_gd Xt.rf ARR_GG ((GD.cg hD (fun o h1 => (hF407.at (by omega) (by omega)))))) rfl rfl rfl rfl rfl rfl rfl rfl (Nat.le_of_ble_eq_true rfl) ⟨nt_no (by decide), ⟨nt_no (by decide), ⟨nt_no (by decide), trivial⟩⟩⟩ (by decide) (q_ranked X p D nn al 0 μs (GD.cg hD (fun o h1 => (hF407.at (by omega) (by omega)))) (by first | omega | assumption) (by first | omega | assumption)) (fun x9 μ9 h9 => ⟨wf_gd Xt.rf ARR_GG h9.2.1, fun o ho => h9.1.at (by have h8 : (45 : Int) ≤ o := ho; omega) (by have h8 : (45 : Int) ≤ o := ho; omega)⟩) (fun x1001 μ_1001 hμ1001 => ?_)
        obtain ⟨hF1001, hD_1001, hz_1001⟩ := hμ1001
        have hu4 : x1001 = -1000000 := rnk_out (by omega) hz_1001
        refine x_ldc (n := -1000000) dL_isBest_734 k_1179 (by decide) ?_
        refine x_icmp_ne (tgt := 743) dL_isBest_736 rfl (R32.in (by omega)) (R32.in (by decide)) (fun c736 => ?_) (fun c736 => ?_)
        · skip
          exact (c736 hu4).elim
        · skip
          refine x_iconst dL_isBest_739 ?_
          refine x_goto (tgt := 744) dL_isBest_740 rfl ?_
          have hfin : Fr 6 19 49 60 μ_1001 μ := ((hF1001.wd (by omega) (by omega)).tr hF407)
          refine Gx.loc (ls' := [(9, 0), (9, 0), (9, 0), (9, 0), (9, 0), (9, 0), (9, 0), (9, 0), (9, 0), (9, 0), (9, 0), (9, 0), (9, 0), (9, 0), (9, 0), (9, 0), (9, 0), (9, 0)]) (fun q9 hq9 => by simp [am_l] at hq9) ?_
          exact hend _ _ _ (show cs9 ≤ 30000 by omega) (show 4 * cs9 + 64 ≤ 130000 by omega) hfin
      · skip
        refine x_iload dL_isBest_413 rfl ?_
        refine x_aload_nS dL_isBest_415 rfl rfl ?_
        refine x_bipush dL_isBest_416 (by decide) ?_
        refine x_iload dL_isBest_418 rfl ?_
        refine x_iadd dL_isBest_420 ?_
        refine x_callSP (as := [(3, 13), (0, 24 + st)]) (rest := [(0, bl)]) (k := 0) fL_isBest_421.g ⟨Nat.le_of_ble_eq_true rfl, Nat.le_of_ble_eq_true rfl⟩ ⟨show cs9 ≤ 30000 by omega, show 4 * cs9 + 64 ≤ 130000 by omega⟩ xK_A (wf_gd hX49 hA49 ((GD.cg hD (fun o h1 => (hF407.at (by omega) (by omega)))))) rfl rfl rfl rfl rfl (Nat.le_of_ble_eq_true rfl) ⟨nt_no (by decide), ⟨nt_no (by decide), trivial⟩⟩ (by decide) (s_L_cell G (24 + st) μs hk4 (by first | omega | assumption)) ?_
        have hf1002 := sc_r G (24 + st)
        refine x_bipush dL_isBest_424 (by decide) ?_
        refine x_callSP (as := [(0, sc G (24 + st)), (0, 9)]) (rest := [(0, bl)]) (k := 0) fL_isBest_426.g ⟨Nat.le_of_ble_eq_true rfl, Nat.le_of_ble_eq_true rfl⟩ ⟨show cs9 ≤ 30000 by omega, show 4 * cs9 + 64 ≤ 130000 by omega⟩ xK_A (wf_gd hX49 hA49 ((GD.cg hD (fun o h1 => (hF407.at (by omega) (by omega)))))) rfl rfl rfl rfl rfl (Nat.le_of_ble_eq_true rfl) ⟨nt_no (by decide), ⟨nt_no (by decide), trivial⟩⟩ (by decide) (s_L_in G (sc G (24 + st)) 9 μs (by first | omega | assumption)) ?_
        have hf1003 := inn_rr (sc G (24 + st)) 9 (by omega)
        refine x_iadd dL_isBest_429 ?_
        refine x_iconst dL_isBest_430 ?_
        refine x_isub dL_isBest_431 ?_
        refine Gx.top (fun l9 hl9 => ?_)
        refine x_istore (ls' := [(2, 0), (3, 13), (2, 45), (0, dN D), (2, 46), (2, 47), (0, bl), (0, br), (0, al), (2, 48), (0, st), (0, l9), (9, 0), (9, 0), (9, 0), (9, 0), (9, 0), (9, 0)]) dL_isBest_432 (Nat.le_of_ble_eq_true rfl) rfl rfl ?_
        refine x_iload dL_isBest_434 rfl ?_
        refine x_aload_nS dL_isBest_436 rfl rfl ?_
        refine x_bipush dL_isBest_437 (by decide) ?_
        refine x_iload dL_isBest_439 rfl ?_
        refine x_iadd dL_isBest_441 ?_
        refine x_callSP (as := [(3, 13), (0, 24 + st)]) (rest := [(0, l9)]) (k := 0) fL_isBest_442.g ⟨Nat.le_of_ble_eq_true rfl, Nat.le_of_ble_eq_true rfl⟩ ⟨show cs9 ≤ 30000 by omega, show 4 * cs9 + 64 ≤ 130000 by omega⟩ xK_A (wf_gd hX49 hA49 ((GD.cg hD (fun o h1 => (hF407.at (by omega) (by omega)))))) rfl rfl rfl rfl rfl (Nat.le_of_ble_eq_true rfl) ⟨nt_no (by decide), ⟨nt_no (by decide), trivial⟩⟩ (by decide) (s_L_cell G (24 + st) μs hk4 (by first | omega | assumption)) ?_
        have hf1004 := sc_r G (24 + st)
        refine x_bipush dL_isBest_445 (by decide) ?_
        refine x_idiv dL_isBest_447 (R32.in (by omega)) (R32.in (by decide)) (by omega) ?_
        refine x_bipush dL_isBest_448 (by decide) ?_
        refine x_callSP (as := [(0, Int.tdiv (sc G (24 + st)) 16), (0, 9)]) (rest := [(0, l9)]) (k := 0) fL_isBest_450.g ⟨Nat.le_of_ble_eq_true rfl, Nat.le_of_ble_eq_true rfl⟩ ⟨show cs9 ≤ 30000 by omega, show 4 * cs9 + 64 ≤ 130000 by omega⟩ xK_A (wf_gd hX49 hA49 ((GD.cg hD (fun o h1 => (hF407.at (by omega) (by omega)))))) rfl rfl rfl rfl rfl (Nat.le_of_ble_eq_true rfl) ⟨nt_no (by decide), ⟨nt_no (by decide), trivial⟩⟩ (by decide) (s_L_in G (Int.tdiv (sc G (24 + st)) 16) 9 μs (by first | omega | assumption)) ?_
        have hf1005 := inn_rr (Int.tdiv (sc G (24 + st)) 16) 9 (by omega)
        refine x_iadd dL_isBest_453 ?_
        refine x_iconst dL_isBest_454 ?_
        refine x_isub dL_isBest_455 ?_
        refine Gx.top (fun r9 hr9 => ?_)
        refine x_istore (ls' := [(2, 0), (3, 13), (2, 45), (0, dN D), (2, 46), (2, 47), (0, bl), (0, br), (0, al), (2, 48), (0, st), (0, l9), (0, r9), (9, 0), (9, 0), (9, 0), (9, 0), (9, 0)]) dL_isBest_456 (Nat.le_of_ble_eq_true rfl) rfl rfl ?_
        refine x_iload dL_isBest_458 rfl ?_
        refine x_abs fL_isBest_460 (R32.in (by omega)) (Nat.le_of_ble_eq_true rfl) ⟨Nat.le_of_ble_eq_true rfl, Nat.le_of_ble_eq_true rfl, show cs9 ≤ 30000 by omega, show 4 * cs9 + 64 ≤ 130000 by omega⟩ ?_
        refine x_bipush dL_isBest_463 (by decide) ?_
        refine x_icmp_gt (tgt := 720) dL_isBest_465 rfl (R32.in (by omega)) (R32.in (by decide)) (fun c465 => ?_) (fun c465 => ?_)
        · skip
          refine x_iinc (ls' := [(2, 0), (3, 13), (2, 45), (0, dN D), (2, 46), (2, 47), (0, bl), (0, br), (0, al), (2, 48), (0, st + 1), (0, l9), (0, r9), (9, 0), (9, 0), (9, 0), (9, 0), (9, 0)]) dL_isBest_720 rfl (Nat.le_of_ble_eq_true rfl) rfl rfl ?_
          refine x_goto (tgt := 407) dL_isBest_723 rfl ?_
          refine Gx.fgl (ls' := [(2, 0), (3, 13), (2, 45), (0, dN D), (2, 46), (2, 47), (0, bl), (0, br), (0, al), (2, 48), (0, st + 1), (9, 0), (0, r9), (9, 0), (9, 0), (9, 0), (9, 0), (9, 0)]) 11 rfl ?_
          refine Gx.fgl (ls' := [(2, 0), (3, 13), (2, 45), (0, dN D), (2, 46), (2, 47), (0, bl), (0, br), (0, al), (2, 48), (0, st + 1), (9, 0), (9, 0), (9, 0), (9, 0), (9, 0), (9, 0), (9, 0)]) 12 rfl ?_
          exact ih407 (4 - (st + 1)).toNat (ms_lt hn407 c410) (st + 1) cs9 μs rfl hF407 (by first | omega | assumption) (by first | omega | assumption)
        · skip
          refine x_iload dL_isBest_468 rfl ?_
          refine x_abs fL_isBest_470 (R32.in (by omega)) (Nat.le_of_ble_eq_true rfl) ⟨Nat.le_of_ble_eq_true rfl, Nat.le_of_ble_eq_true rfl, show cs9 ≤ 30000 by omega, show 4 * cs9 + 64 ≤ 130000 by omega⟩ ?_
          refine x_bipush dL_isBest_473 (by decide) ?_
          refine x_icmp_le (tgt := 481) dL_isBest_475 rfl (R32.in (by omega)) (R32.in (by decide)) (fun c475 => ?_) (fun c475 => ?_)
          · skip
            refine x_aload_nS dL_isBest_481 rfl rfl ?_
            refine x_aload_n dL_isBest_482 rfl rfl (by first | decide | omega) ?_
            refine x_aload dL_isBest_483 rfl (by first | decide | omega) ?_
            refine x_aload dL_isBest_485 rfl (by first | decide | omega) ?_
            refine x_iload dL_isBest_487 rfl ?_
            refine x_iload dL_isBest_489 rfl ?_
            refine x_callSX (as := [(3, 13), (2, 45), (2, 47), (2, 46), (0, l9), (0, r9)]) (rest := []) (k := 19) (mc := 1) (ms := 4) (P := (judP D l9 r9 49 G μs)) fL_isBest_491.g ⟨Nat.le_of_ble_eq_true rfl, Nat.le_of_ble_eq_true rfl⟩ ⟨show cs9 + 1 ≤ 30000 by omega, show 4 * cs9 + 64 + 4 ≤ 130000 by omega⟩ xK_A (wf_gd hX49 hA49 ((GD.cg hD (fun o h1 => (hF407.at (by omega) (by omega)))))) rfl rfl rfl rfl rfl (Nat.le_of_ble_eq_true rfl) (by rw [hlen49]; exact ⟨fun _ => (by omega), ⟨nt_no (by decide), ⟨fun _ => (by omega), ⟨nt_no (by decide), ⟨fun _ => (by omega), ⟨fun _ => (by omega), ⟨nt_no (by decide), ⟨nt_no (by decide), ⟨nt_no (by decide), ⟨fun _ => (by omega), ⟨nt_no (by decide), ⟨nt_no (by decide), ⟨nt_no (by decide), ⟨nt_no (by decide), ⟨nt_no (by decide), ⟨nt_no (by decide), ⟨nt_no (by decide), ⟨nt_no (by decide), trivial⟩⟩⟩⟩⟩⟩⟩⟩⟩⟩⟩⟩⟩⟩⟩⟩⟩⟩) (by rw [hlen49]; exact trivial) (s_L_judged G D nn 49 l9 r9 μs hlen49 (by decide) hs45 hs46 hs47 (wf_gd hX49 hA49 ((GD.cg hD (fun o h1 => (hF407.at (by omega) (by omega)))))) (LD.cg hLD (fun o h1 => (hF407.at (by omega) (by omega)))) (LW.cg hW (fun o h1 => (hF407.at (by omega) (by omega)))) (by omega)) (fun G491 r491 μ491 hp491 hx491 => ?_)
            rcases hp491 with ⟨hna491, rfl, rfl, hm491⟩ | ⟨hal491, q491, rfl, rfl, hv491, ho491⟩
            · skip
              have hm9491 := hm491.symm
              rw [hm491]
              refine Gx.cg (ls' := [(2, 0), (3, 13), (2, 45), (0, dN D), (2, 46), (2, 47), (0, bl), (0, br), (0, al), (2, 48), (0, st), (0, l9), (0, r9), (9, 0), (9, 0), (9, 0), (9, 0), (9, 0)]) (st' := [(2, -1)]) (μ' := μs) ?_ rfl rfl rfl
              refine Gx.widen (cs2 := cs9 + 1) (ss2 := 4 * (cs9 + 1) + 64) (by omega) (by omega) ?_
              refine x_astoreN (ls' := [(2, 0), (3, 13), (2, 45), (0, dN D), (2, 46), (2, 47), (0, bl), (0, br), (0, al), (2, 48), (0, st), (0, l9), (0, r9), (2, -1), (9, 0), (9, 0), (9, 0), (9, 0)]) dL_isBest_494 (Nat.le_of_ble_eq_true rfl) rfl rfl ?_
              refine x_aload_n dL_isBest_496 rfl rfl (by first | decide | omega) ?_
              refine x_iconst dL_isBest_497 ?_
              refine x_iload dL_isBest_498 rfl ?_
              refine x_iload dL_isBest_500 rfl ?_
              refine x_iconst dL_isBest_502 ?_
              refine x_callVI (o := 0) (ci := 7) (as := [(0, 0), (0, l9), (0, r9), (0, 0)]) (rest := []) (k := 0) (Gs := GG X) fL_isBest_503.g ⟨Nat.le_of_ble_eq_true rfl, Nat.le_of_ble_eq_true rfl⟩ ⟨show cs9 + 1 ≤ 30000 by omega, show 4 * (cs9 + 1) + 64 ≤ 130000 by omega⟩ xK_A hX49 (wf_gd Xt.rf ARR_GG ((GD.cg hD (fun o h1 => (hF407.at (by omega) (by omega)))))) rfl rfl rfl rfl rfl rfl rfl rfl (Nat.le_of_ble_eq_true rfl) ⟨nt_no (by decide), ⟨nt_no (by decide), ⟨nt_no (by decide), ⟨nt_no (by decide), trivial⟩⟩⟩⟩ (by decide) (q_ugliness X p D nn l9 r9 μs (GD.cg hD (fun o h1 => (hF407.at (by omega) (by omega)))) (by first | omega | assumption)) (fun x9 μ9 h9 => ⟨wf_gd Xt.rf ARR_GG h9.2.1, fun o ho => h9.1.at (by have h8 : (45 : Int) ≤ o := ho; omega) (by have h8 : (45 : Int) ≤ o := ho; omega)⟩) (fun x1006 μ_1006 hμ1006 => ?_)
              obtain ⟨hF1006, hD_1006, hz_1006⟩ := hμ1006
              have hu9 : x1006 = -2 := (by rw [hz_1006]; exact if_neg (fun q9 => hna491 ((alwB_iff (by omega)).mp q9)))
              refine x_i2l dL_isBest_506 (R32.in (by omega)) ?_
              refine x_aloadN dL_isBest_507 rfl ?_
              refine x_ifnonnull_n dL_isBest_509 ?_
              refine x_ldc2 (n := -2) dL_isBest_512 k_1212 (by decide) ?_
              refine x_goto (tgt := 532) dL_isBest_515 rfl ?_
              refine x_lc_eq (tgt := 538) dL_isBest_532 dL_isBest_533 rfl (R64.in (by omega)) (R64.in (by omega)) (fun c533 => ?_) (fun c533 => ?_)
              · skip
                refine x_aloadN dL_isBest_538 rfl ?_
                refine x_ifnonnull_n dL_isBest_540 ?_
                refine x_aload_n dL_isBest_543 rfl rfl (by first | decide | omega) ?_
                refine x_iconst dL_isBest_544 ?_
                refine x_iload dL_isBest_545 rfl ?_
                refine x_iload dL_isBest_547 rfl ?_
                refine x_callVI (o := 0) (ci := 7) (as := [(0, 0), (0, l9), (0, r9)]) (rest := []) (k := 0) (Gs := GG X) fL_isBest_549.g ⟨Nat.le_of_ble_eq_true rfl, Nat.le_of_ble_eq_true rfl⟩ ⟨show cs9 + 1 ≤ 30000 by omega, show 4 * (cs9 + 1) + 64 ≤ 130000 by omega⟩ xK_A hX49 (wf_gd Xt.rf ARR_GG (hD_1006)) rfl rfl rfl rfl rfl rfl rfl rfl (Nat.le_of_ble_eq_true rfl) ⟨nt_no (by decide), ⟨nt_no (by decide), ⟨nt_no (by decide), trivial⟩⟩⟩ (by decide) (q_rank X p D nn l9 r9 μ_1006 hD_1006 (by first | omega | assumption)) (fun x9 μ9 h9 => ⟨wf_gd Xt.rf ARR_GG h9.2.1, fun o ho => h9.1.at (by have h8 : (45 : Int) ≤ o := ho; omega) (by have h8 : (45 : Int) ≤ o := ho; omega)⟩) (fun x1007 μ_1007 hμ1007 => ?_)
                obtain ⟨hF1007, hD_1007, hz_1007⟩ := hμ1007
                have hu8 : x1007 = -2 := (by rw [hz_1007]; exact if_neg (fun q9 => hna491 ((alwB_iff (by omega)).mp q9)))
                refine x_bipush dL_isBest_552 (by decide) ?_
                refine x_icmp_eq (tgt := 720) dL_isBest_554 rfl (R32.in (by omega)) (R32.in (by decide)) (fun c554 => ?_) (fun c554 => ?_)
                · skip
                  refine x_iinc (ls' := [(2, 0), (3, 13), (2, 45), (0, dN D), (2, 46), (2, 47), (0, bl), (0, br), (0, al), (2, 48), (0, st + 1), (0, l9), (0, r9), (2, -1), (9, 0), (9, 0), (9, 0), (9, 0)]) dL_isBest_720 rfl (Nat.le_of_ble_eq_true rfl) rfl rfl ?_
                  refine x_goto (tgt := 407) dL_isBest_723 rfl ?_
                  refine Gx.fgl (ls' := [(2, 0), (3, 13), (2, 45), (0, dN D), (2, 46), (2, 47), (0, bl), (0, br), (0, al), (2, 48), (0, st + 1), (9, 0), (0, r9), (2, -1), (9, 0), (9, 0), (9, 0), (9, 0)]) 11 rfl ?_
                  refine Gx.fgl (ls' := [(2, 0), (3, 13), (2, 45), (0, dN D), (2, 46), (2, 47), (0, bl), (0, br), (0, al), (2, 48), (0, st + 1), (9, 0), (9, 0), (2, -1), (9, 0), (9, 0), (9, 0), (9, 0)]) 12 rfl ?_
                  refine Gx.fgl (ls' := [(2, 0), (3, 13), (2, 45), (0, dN D), (2, 46), (2, 47), (0, bl), (0, br), (0, al), (2, 48), (0, st + 1), (9, 0), (9, 0), (9, 0), (9, 0), (9, 0), (9, 0), (9, 0)]) 13 rfl ?_
                  exact ih407 (4 - (st + 1)).toNat (ms_lt hn407 c410) (st + 1) (cs9 + 1) μ_1007 rfl ((hF1007.wd (by omega) (by omega)).tr ((hF1006.wd (by omega) (by omega)).tr hF407)) (by first | omega | assumption) (by first | omega | assumption)
                · skip
                  exact (c554 hu8).elim
              · skip
                exact (c533 hu9).elim
            · skip
              refine Gx.cg (ls' := [(2, 0), (3, 13), (2, 45), (0, dN D), (2, 46), (2, 47), (0, bl), (0, br), (0, al), (2, 48), (0, st), (0, l9), (0, r9), (9, 0), (9, 0), (9, 0), (9, 0), (9, 0)]) (st' := [(2, 49)]) (μ' := μ491) ?_ rfl rfl rfl
              refine Gx.widen (cs2 := cs9 + 1) (ss2 := 4 * (cs9 + 1) + 64) (by omega) (by omega) ?_
              have hF491 : Fr 49 49 1 0 μ491 μs := (fun o h1 h2 => ho491 o (by omega))
              have hJ491 : rowJ μ491 49 D l9 r9 := hv491
              have hlen50 : (gS (ax G (23, 4) q491)).length = 50 := (by rw [ax_len, hlen49])
              have hX50 : Xt (GG X) (ax G (23, 4) q491) := hX49.tr (Xt.ax G (23, 4) q491)
              have hA50 : ARR (ax G (23, 4) q491) := hA49.ax (Nat.le_of_ble_eq_true rfl)
              have hs45 := (Xt.ax G (23, 4) q491).sh hs45
              have hs46 := (Xt.ax G (23, 4) q491).sh hs46
              have hs47 := (Xt.ax G (23, 4) q491).sh hs47
              have hs48 := (Xt.ax G (23, 4) q491).sh hs48
              have hs49 : (gS (ax G (23, 4) q491))[49]? = some (23, 4) := (by have h9 := @ax_sh G (23, 4) q491; rw [hlen49] at h9; exact h9)
              have hst9 := stm_a hok hal491
              have hsl9 := slp_f D (r9 - l9) (by omega)
              have hsf9 := stf_f D (r9 - l9) l9 hok
              refine x_astore (ls' := [(2, 0), (3, 13), (2, 45), (0, dN D), (2, 46), (2, 47), (0, bl), (0, br), (0, al), (2, 48), (0, st), (0, l9), (0, r9), (2, 49), (9, 0), (9, 0), (9, 0), (9, 0)]) dL_isBest_494 (Nat.le_of_ble_eq_true rfl) rfl (by first | decide | omega) rfl ?_
              refine x_aload_n dL_isBest_496 rfl rfl (by first | decide | omega) ?_
              refine x_iconst dL_isBest_497 ?_
              refine x_iload dL_isBest_498 rfl ?_
              refine x_iload dL_isBest_500 rfl ?_
              refine x_iconst dL_isBest_502 ?_
              refine x_callVI (o := 0) (ci := 7) (as := [(0, 0), (0, l9), (0, r9), (0, 0)]) (rest := []) (k := 0) (Gs := GG X) fL_isBest_503.g ⟨Nat.le_of_ble_eq_true rfl, Nat.le_of_ble_eq_true rfl⟩ ⟨show cs9 + 1 ≤ 30000 by omega, show 4 * (cs9 + 1) + 64 ≤ 130000 by omega⟩ xK_A hX50 (wf_gd Xt.rf ARR_GG ((GD.cg hD (fun o h1 => ((hF491.at (by omega) (by omega)).trans (hF407.at (by omega) (by omega))))))) rfl rfl rfl rfl rfl rfl rfl rfl (Nat.le_of_ble_eq_true rfl) ⟨nt_no (by decide), ⟨nt_no (by decide), ⟨nt_no (by decide), ⟨nt_no (by decide), trivial⟩⟩⟩⟩ (by decide) (q_ugliness X p D nn l9 r9 μ491 (GD.cg hD (fun o h1 => ((hF491.at (by omega) (by omega)).trans (hF407.at (by omega) (by omega))))) (by first | omega | assumption)) (fun x9 μ9 h9 => ⟨wf_gd Xt.rf ARR_GG h9.2.1, fun o ho => h9.1.at (by have h8 : (45 : Int) ≤ o := ho; omega) (by have h8 : (45 : Int) ≤ o := ho; omega)⟩) (fun x1008 μ_1008 hμ1008 => ?_)
              obtain ⟨hF1008, hD_1008, hz_1008⟩ := hμ1008
              have hu9 : x1008 = stm D (r9 - l9) l9 + slp D (r9 - l9) + stf D (r9 - l9) l9 := (by rw [hz_1008, if_pos ((alwB_iff (by omega)).mpr hal491)]; rfl)
              refine x_i2l dL_isBest_506 (R32.in (by omega)) ?_
              refine x_aload dL_isBest_507 rfl (by first | decide | omega) ?_
              refine x_ifnonnull_r (tgt := 518) dL_isBest_509 rfl (by omega) ?_
              refine x_aload dL_isBest_518 rfl (by first | decide | omega) ?_
              refine x_iconst dL_isBest_520 ?_
              refine x_laldx (o := 49) (n := 4) (x := stm D (r9 - l9) l9) dL_isBest_521 rfl hs49 (Nat.le_of_ble_eq_true rfl) (by omega) ((congrFun (hF1008.at (by omega) (by omega)) _).trans hJ491.1.1) ?_
              refine x_aload dL_isBest_522 rfl (by first | decide | omega) ?_
              refine x_iconst dL_isBest_524 ?_
              refine x_laldx (o := 49) (n := 4) (x := slp D (r9 - l9)) dL_isBest_525 rfl hs49 (Nat.le_of_ble_eq_true rfl) (by omega) ((congrFun (hF1008.at (by omega) (by omega)) _).trans hJ491.1.2) ?_
              refine x_ladd dL_isBest_526 ?_
              refine x_aload dL_isBest_527 rfl (by first | decide | omega) ?_
              refine x_iconst dL_isBest_529 ?_
              refine x_laldx (o := 49) (n := 4) (x := stf D (r9 - l9) l9) dL_isBest_530 rfl hs49 (Nat.le_of_ble_eq_true rfl) (by omega) ((congrFun (hF1008.at (by omega) (by omega)) _).trans hJ491.2.1) ?_
              refine x_ladd dL_isBest_531 ?_
              refine x_lc_eq (tgt := 538) dL_isBest_532 dL_isBest_533 rfl (R64.in (by omega)) (R64.in (by omega)) (fun c533 => ?_) (fun c533 => ?_)
              · skip
                refine x_aload dL_isBest_538 rfl (by first | decide | omega) ?_
                refine x_ifnonnull_r (tgt := 559) dL_isBest_540 rfl (by omega) ?_
                refine x_iconst dL_isBest_559 ?_
                refine x_istore (ls' := [(2, 0), (3, 13), (2, 45), (0, dN D), (2, 46), (2, 47), (0, bl), (0, br), (0, al), (2, 48), (0, st), (0, l9), (0, r9), (2, 49), (0, 0), (9, 0), (9, 0), (9, 0)]) dL_isBest_560 (Nat.le_of_ble_eq_true rfl) rfl rfl ?_
                refine x_bipush dL_isBest_562 (by decide) ?_
                refine x_istore (ls' := [(2, 0), (3, 13), (2, 45), (0, dN D), (2, 46), (2, 47), (0, bl), (0, br), (0, al), (2, 48), (0, st), (0, l9), (0, r9), (2, 49), (0, 0), (0, -60), (9, 0), (9, 0)]) dL_isBest_564 (Nat.le_of_ble_eq_true rfl) rfl rfl ?_
                have hJ2 : ∀ nJ2 : Nat, (∀ (k : Int) (a : Int) (cc2 : Nat) (μr : Mu), ((61 - a) * 40 + 20).toNat = nJ2 → Fr 50 60 1 0 μr μ_1008 → (-60 ≤ a ∧ a ≤ 61) → (k = cnB D (sN D a (-60)) (keyq D (l9, r9))) → ((cc2 : Int) + ((61 - a) * 40 + 20) ≤ cs9 + 4950) → Gx (xK G0 M_L_isBest 30000 130000 P) (ax G (23, 4) q491) M_L_isBest cc2 (4 * (cc2) + 64) 566 [(2, 0), (3, 13), (2, 45), (0, dN D), (2, 46), (2, 47), (0, bl), (0, br), (0, al), (2, 48), (0, st), (0, l9), (0, r9), (2, 49), (0, k), (0, a), (9, 0), (9, 0)] [] μr) ∧ (∀ (k : Int) (a : Int) (b : Int) (cc2 : Nat) (μr : Mu), ((61 - a) * 40 + (9 - (b - a))).toNat = nJ2 → Fr 50 60 1 0 μr μ_1008 → (-60 ≤ a ∧ a ≤ 60) → ((-60 ≤ b ∧ b ≤ 61) ∧ (a - 8 ≤ b ∧ b ≤ a + 9)) → (k = cnB D (sN D a b) (keyq D (l9, r9))) → ((cc2 : Int) + ((61 - a) * 40 + (9 - (b - a))) ≤ cs9 + 4950) → Gx (xK G0 M_L_isBest 30000 130000 P) (ax G (23, 4) q491) M_L_isBest cc2 (4 * (cc2) + 64) 585 [(2, 0), (3, 13), (2, 45), (0, dN D), (2, 46), (2, 47), (0, bl), (0, br), (0, al), (2, 48), (0, st), (0, l9), (0, r9), (2, 49), (0, k), (0, a), (0, b), (9, 0)] [] μr) := by
                  intro nJ2
                  induction nJ2 using Nat.strongRecOn with
                  | ind nJ2 ihJ2 =>
                    refine ⟨?_, ?_⟩
                    · intro k a cc2 μr hnJ2 hFJ2 ha hR hcc2
                      have hkr := cnB_r (D := D) (sN D a (-60)) (keyq D (l9, r9))
                      have hkl := sN_len (D := D) (l := a) (r := -60) (by omega) (by omega)
                      refine x_iload dL_isBest_566 rfl ?_
                      refine x_bipush dL_isBest_568 (by decide) ?_
                      refine x_icmp_gt (tgt := 678) dL_isBest_570 rfl (R32.in (by omega)) (R32.in (by decide)) (fun c570 => ?_) (fun c570 => ?_)
                      · skip
                        have hk9 : k = rkD D (key D (r9 - l9) l9) := (by rw [hR, show a = 61 by omega, sN_end, cnB_end]; rfl)
                        have hi9 := lr_inS (l := l9) (r := r9) (by omega)
                        refine x_aload_n dL_isBest_678 rfl rfl (by first | decide | omega) ?_
                        refine x_iconst dL_isBest_679 ?_
                        refine x_iload dL_isBest_680 rfl ?_
                        refine x_iload dL_isBest_682 rfl ?_
                        refine x_callVI (o := 0) (ci := 7) (as := [(0, 0), (0, l9), (0, r9)]) (rest := []) (k := 0) (Gs := GG X) fL_isBest_684.g ⟨Nat.le_of_ble_eq_true rfl, Nat.le_of_ble_eq_true rfl⟩ ⟨show cc2 ≤ 30000 by omega, show 4 * (cc2) + 64 ≤ 130000 by omega⟩ xK_A hX50 (wf_gd Xt.rf ARR_GG ((GD.cg hD_1008 (fun o h1 => (hFJ2.at (by omega) (by omega)))))) rfl rfl rfl rfl rfl rfl rfl rfl (Nat.le_of_ble_eq_true rfl) ⟨nt_no (by decide), ⟨nt_no (by decide), ⟨nt_no (by decide), trivial⟩⟩⟩ (by decide) (q_rank X p D nn l9 r9 μr (GD.cg hD_1008 (fun o h1 => (hFJ2.at (by omega) (by omega)))) (by first | omega | assumption)) (fun x9 μ9 h9 => ⟨wf_gd Xt.rf ARR_GG h9.2.1, fun o ho => h9.1.at (by have h8 : (45 : Int) ≤ o := ho; omega) (by have h8 : (45 : Int) ≤ o := ho; omega)⟩) (fun x1009 μ_1009 hμ1009 => ?_)
                        obtain ⟨hF1009, hD_1009, hz_1009⟩ := hμ1009
                        have hu7 : x1009 = k := (by rw [hz_1009, if_pos ((alwB_iff (by omega)).mpr hal491)]; exact hk9.symm)
                        refine x_iload dL_isBest_687 rfl ?_
                        refine x_icmp_ne (tgt := 718) dL_isBest_689 rfl (R32.in (by omega)) (R32.in (by omega)) (fun c689 => ?_) (fun c689 => ?_)
                        · skip
                          exact (c689 hu7).elim
                        · skip
                          refine x_aload_n dL_isBest_692 rfl rfl (by first | decide | omega) ?_
                          refine x_iconst dL_isBest_693 ?_
                          refine x_iload dL_isBest_694 rfl ?_
                          refine x_iconst dL_isBest_696 ?_
                          refine x_callVI (o := 0) (ci := 7) (as := [(0, 0), (0, k), (0, 0)]) (rest := []) (k := 0) (Gs := GG X) fL_isBest_697.g ⟨Nat.le_of_ble_eq_true rfl, Nat.le_of_ble_eq_true rfl⟩ ⟨show cc2 ≤ 30000 by omega, show 4 * (cc2) + 64 ≤ 130000 by omega⟩ xK_A hX50 (wf_gd Xt.rf ARR_GG (hD_1009)) rfl rfl rfl rfl rfl rfl rfl rfl (Nat.le_of_ble_eq_true rfl) ⟨nt_no (by decide), ⟨nt_no (by decide), ⟨nt_no (by decide), trivial⟩⟩⟩ (by decide) (q_ranked X p D nn k 0 μ_1009 hD_1009 (by first | omega | assumption) (by first | omega | assumption)) (fun x9 μ9 h9 => ⟨wf_gd Xt.rf ARR_GG h9.2.1, fun o ho => h9.1.at (by have h8 : (45 : Int) ≤ o := ho; omega) (by have h8 : (45 : Int) ≤ o := ho; omega)⟩) (fun x1010 μ_1010 hμ1010 => ?_)
                          obtain ⟨hF1010, hD_1010, hz_1010⟩ := hμ1010
                          have hu6 : x1010 = l9 := rnk_is hok hi9 hal491 hk9 hz_1010
                          refine x_iload dL_isBest_700 rfl ?_
                          refine x_icmp_ne (tgt := 718) dL_isBest_702 rfl (R32.in (by omega)) (R32.in (by omega)) (fun c702 => ?_) (fun c702 => ?_)
                          · skip
                            exact (c702 hu6).elim
                          · skip
                            refine x_aload_n dL_isBest_705 rfl rfl (by first | decide | omega) ?_
                            refine x_iconst dL_isBest_706 ?_
                            refine x_iload dL_isBest_707 rfl ?_
                            refine x_iconst dL_isBest_709 ?_
                            refine x_callVI (o := 0) (ci := 7) (as := [(0, 0), (0, k), (0, 1)]) (rest := []) (k := 0) (Gs := GG X) fL_isBest_710.g ⟨Nat.le_of_ble_eq_true rfl, Nat.le_of_ble_eq_true rfl⟩ ⟨show cc2 ≤ 30000 by omega, show 4 * (cc2) + 64 ≤ 130000 by omega⟩ xK_A hX50 (wf_gd Xt.rf ARR_GG (hD_1010)) rfl rfl rfl rfl rfl rfl rfl rfl (Nat.le_of_ble_eq_true rfl) ⟨nt_no (by decide), ⟨nt_no (by decide), ⟨nt_no (by decide), trivial⟩⟩⟩ (by decide) (q_ranked X p D nn k 1 μ_1010 hD_1010 (by first | omega | assumption) (by first | omega | assumption)) (fun x9 μ9 h9 => ⟨wf_gd Xt.rf ARR_GG h9.2.1, fun o ho => h9.1.at (by have h8 : (45 : Int) ≤ o := ho; omega) (by have h8 : (45 : Int) ≤ o := ho; omega)⟩) (fun x1011 μ_1011 hμ1011 => ?_)
                            obtain ⟨hF1011, hD_1011, hz_1011⟩ := hμ1011
                            have hu5 : x1011 = r9 := (by rw [rnk_is hok hi9 hal491 hk9 hz_1011]; show l9 + (r9 - l9) = r9; omega)
                            refine x_iload dL_isBest_713 rfl ?_
                            refine x_icmp_eq (tgt := 720) dL_isBest_715 rfl (R32.in (by omega)) (R32.in (by omega)) (fun c715 => ?_) (fun c715 => ?_)
                            · skip
                              refine x_iinc (ls' := [(2, 0), (3, 13), (2, 45), (0, dN D), (2, 46), (2, 47), (0, bl), (0, br), (0, al), (2, 48), (0, st + 1), (0, l9), (0, r9), (2, 49), (0, k), (0, a), (9, 0), (9, 0)]) dL_isBest_720 rfl (Nat.le_of_ble_eq_true rfl) rfl rfl ?_
                              refine x_goto (tgt := 407) dL_isBest_723 rfl ?_
                              refine Gx.fgl (ls' := [(2, 0), (3, 13), (2, 45), (0, dN D), (2, 46), (2, 47), (0, bl), (0, br), (0, al), (2, 48), (0, st + 1), (9, 0), (0, r9), (2, 49), (0, k), (0, a), (9, 0), (9, 0)]) 11 rfl ?_
                              refine Gx.fgl (ls' := [(2, 0), (3, 13), (2, 45), (0, dN D), (2, 46), (2, 47), (0, bl), (0, br), (0, al), (2, 48), (0, st + 1), (9, 0), (9, 0), (2, 49), (0, k), (0, a), (9, 0), (9, 0)]) 12 rfl ?_
                              refine Gx.fgl (ls' := [(2, 0), (3, 13), (2, 45), (0, dN D), (2, 46), (2, 47), (0, bl), (0, br), (0, al), (2, 48), (0, st + 1), (9, 0), (9, 0), (9, 0), (0, k), (0, a), (9, 0), (9, 0)]) 13 rfl ?_
                              refine Gx.fgl (ls' := [(2, 0), (3, 13), (2, 45), (0, dN D), (2, 46), (2, 47), (0, bl), (0, br), (0, al), (2, 48), (0, st + 1), (9, 0), (9, 0), (9, 0), (9, 0), (0, a), (9, 0), (9, 0)]) 14 rfl ?_
                              refine Gx.fgl (ls' := [(2, 0), (3, 13), (2, 45), (0, dN D), (2, 46), (2, 47), (0, bl), (0, br), (0, al), (2, 48), (0, st + 1), (9, 0), (9, 0), (9, 0), (9, 0), (9, 0), (9, 0), (9, 0)]) 15 rfl ?_
                              refine Gx.drop (wf_gd hX49 hA49 (hD_1011)) (by rw [hlen49]; exact ⟨fun _ => (by omega), ⟨nt_no (by decide), ⟨fun _ => (by omega), ⟨nt_no (by decide), ⟨fun _ => (by omega), ⟨fun _ => (by omega), ⟨nt_no (by decide), ⟨nt_no (by decide), ⟨nt_no (by decide), ⟨fun _ => (by omega), ⟨nt_no (by decide), ⟨nt_no (by decide), ⟨nt_no (by decide), ⟨nt_no (by decide), ⟨nt_no (by decide), ⟨nt_no (by decide), ⟨nt_no (by decide), ⟨nt_no (by decide), trivial⟩⟩⟩⟩⟩⟩⟩⟩⟩⟩⟩⟩⟩⟩⟩⟩⟩⟩) (by rw [hlen49]; exact trivial) ?_
                              exact ih407 (4 - (st + 1)).toNat (ms_lt hn407 c410) (st + 1) cc2 μ_1011 rfl ((hF1011.wd (by omega) (by omega)).tr ((hF1010.wd (by omega) (by omega)).tr ((hF1009.wd (by omega) (by omega)).tr ((hFJ2.wd (by omega) (by omega)).tr ((hF1008.wd (by omega) (by omega)).tr ((hF491.wd (by omega) (by omega)).tr hF407)))))) (by first | omega | assumption) (by first | omega | assumption)
                            · skip
                              exact (c715 hu5).elim
                      · skip
                        refine x_bipush dL_isBest_573 (by decide) ?_
                        refine x_iload dL_isBest_575 rfl ?_
                        refine x_bipush dL_isBest_577 (by decide) ?_
                        refine x_isub dL_isBest_579 ?_
                        refine x_max fL_isBest_580 (R32.in (by decide)) (R32.in (by omega)) (Nat.le_of_ble_eq_true rfl) ⟨Nat.le_of_ble_eq_true rfl, Nat.le_of_ble_eq_true rfl, show cc2 ≤ 30000 by omega, show 4 * (cc2) + 64 ≤ 130000 by omega⟩ ?_
                        refine x_istore (ls' := [(2, 0), (3, 13), (2, 45), (0, dN D), (2, 46), (2, 47), (0, bl), (0, br), (0, al), (2, 48), (0, st), (0, l9), (0, r9), (2, 49), (0, k), (0, a), (0, max (-60) (a - 8)), (9, 0)]) dL_isBest_583 (Nat.le_of_ble_eq_true rfl) rfl rfl ?_
                        exact (ihJ2 _ (by omega)).2 k a (max (-60) (a - 8)) cc2 μr rfl hFJ2 (by omega) (by omega) (by first | exact cn_beg hR (by omega) | exact cn_n hR (by omega) (by omega) (fun q9 => hna610 ((alwB_iff (by omega)).mp q9.2)) | exact cn_y1 hR (by omega) (by omega) (by omega) ((alwB_iff (by omega)).mpr hal610) c655 | exact cn_y0 hR (by omega) (by omega) (by omega) ((alwB_iff (by omega)).mpr hal610) c655 | exact cn_y0 hR (by omega) (by omega) (by omega) ((alwB_iff (by omega)).mpr hal610) (by rw [c626, c633]; exact Int.lt_irrefl _)) (by omega)
                    · intro k a b cc2 μr hnJ2 hFJ2 ha hb hR hcc2
                      have hkr := cnB_r (D := D) (sN D a b) (keyq D (l9, r9))
                      have hkl := sN_len (D := D) (l := a) (r := b) (by omega) (by omega)
                      refine x_iload dL_isBest_585 rfl ?_
                      refine x_bipush dL_isBest_587 (by decide) ?_
                      refine x_iload dL_isBest_589 rfl ?_
                      refine x_bipush dL_isBest_591 (by decide) ?_
                      refine x_iadd dL_isBest_593 ?_
                      refine x_min fL_isBest_594 (R32.in (by decide)) (R32.in (by omega)) (Nat.le_of_ble_eq_true rfl) ⟨Nat.le_of_ble_eq_true rfl, Nat.le_of_ble_eq_true rfl, show cc2 ≤ 30000 by omega, show 4 * (cc2) + 64 ≤ 130000 by omega⟩ ?_
                      refine x_icmp_gt (tgt := 672) dL_isBest_597 rfl (R32.in (by omega)) (R32.in (by omega)) (fun c597 => ?_) (fun c597 => ?_)
                      · skip
                        refine x_iinc (ls' := [(2, 0), (3, 13), (2, 45), (0, dN D), (2, 46), (2, 47), (0, bl), (0, br), (0, al), (2, 48), (0, st), (0, l9), (0, r9), (2, 49), (0, k), (0, a + 1), (0, b), (9, 0)]) dL_isBest_672 rfl (Nat.le_of_ble_eq_true rfl) rfl rfl ?_
                        refine x_goto (tgt := 566) dL_isBest_675 rfl ?_
                        refine Gx.fgl (ls' := [(2, 0), (3, 13), (2, 45), (0, dN D), (2, 46), (2, 47), (0, bl), (0, br), (0, al), (2, 48), (0, st), (0, l9), (0, r9), (2, 49), (0, k), (0, a + 1), (9, 0), (9, 0)]) 16 rfl ?_
                        exact (ihJ2 _ (by omega)).1 k (a + 1) cc2 μr rfl hFJ2 (by omega) (cn_row hR (by omega) (by omega) (by intro x h1 h2; omega)) (by omega)
                      · skip
                        refine x_aload_nS dL_isBest_600 rfl rfl ?_
                        refine x_aload_n dL_isBest_601 rfl rfl (by first | decide | omega) ?_
                        refine x_aload dL_isBest_602 rfl (by first | decide | omega) ?_
                        refine x_aload dL_isBest_604 rfl (by first | decide | omega) ?_
                        refine x_iload dL_isBest_606 rfl ?_
                        refine x_iload dL_isBest_608 rfl ?_
                        refine x_callSX (as := [(3, 13), (2, 45), (2, 47), (2, 46), (0, a), (0, b)]) (rest := []) (k := 19) (mc := 1) (ms := 4) (P := (judP D a b 50 (ax G (23, 4) q491) μr)) fL_isBest_610.g ⟨Nat.le_of_ble_eq_true rfl, Nat.le_of_ble_eq_true rfl⟩ ⟨show cc2 + 1 ≤ 30000 by omega, show 4 * (cc2) + 64 + 4 ≤ 130000 by omega⟩ xK_A (wf_gd hX50 hA50 ((GD.cg hD_1008 (fun o h1 => (hFJ2.at (by omega) (by omega)))))) rfl rfl rfl rfl rfl (Nat.le_of_ble_eq_true rfl) (by rw [hlen50]; exact ⟨fun _ => (by omega), ⟨nt_no (by decide), ⟨fun _ => (by omega), ⟨nt_no (by decide), ⟨fun _ => (by omega), ⟨fun _ => (by omega), ⟨nt_no (by decide), ⟨nt_no (by decide), ⟨nt_no (by decide), ⟨fun _ => (by omega), ⟨nt_no (by decide), ⟨nt_no (by decide), ⟨nt_no (by decide), ⟨fun _ => (by omega), ⟨nt_no (by decide), ⟨nt_no (by decide), ⟨nt_no (by decide), ⟨nt_no (by decide), trivial⟩⟩⟩⟩⟩⟩⟩⟩⟩⟩⟩⟩⟩⟩⟩⟩⟩⟩) (by rw [hlen50]; exact trivial) (s_L_judged (ax G (23, 4) q491) D nn 50 a b μr hlen50 (by decide) hs45 hs46 hs47 (wf_gd hX50 hA50 ((GD.cg hD_1008 (fun o h1 => (hFJ2.at (by omega) (by omega)))))) (LD.cg hLD (fun o h1 => ((hFJ2.at (by omega) (by omega)).trans ((hF1008.at (by omega) (by omega)).trans ((hF491.at (by omega) (by omega)).trans (hF407.at (by omega) (by omega))))))) (LW.cg hW (fun o h1 => ((hFJ2.at (by omega) (by omega)).trans ((hF1008.at (by omega) (by omega)).trans ((hF491.at (by omega) (by omega)).trans (hF407.at (by omega) (by omega))))))) (by omega)) (fun G610 r610 μ610 hp610 hx610 => ?_)
                        rcases hp610 with ⟨hna610, rfl, rfl, hm610⟩ | ⟨hal610, q610, rfl, rfl, hv610, ho610⟩
                        · skip
                          have hm9610 := hm610.symm
                          rw [hm610]
                          refine Gx.cg (ls' := [(2, 0), (3, 13), (2, 45), (0, dN D), (2, 46), (2, 47), (0, bl), (0, br), (0, al), (2, 48), (0, st), (0, l9), (0, r9), (2, 49), (0, k), (0, a), (0, b), (9, 0)]) (st' := [(2, -1)]) (μ' := μr) ?_ rfl rfl rfl
                          refine Gx.widen (cs2 := cc2 + 1) (ss2 := 4 * (cc2 + 1) + 64) (by omega) (by omega) ?_
                          refine x_astoreN (ls' := [(2, 0), (3, 13), (2, 45), (0, dN D), (2, 46), (2, 47), (0, bl), (0, br), (0, al), (2, 48), (0, st), (0, l9), (0, r9), (2, 49), (0, k), (0, a), (0, b), (2, -1)]) dL_isBest_613 (Nat.le_of_ble_eq_true rfl) rfl rfl ?_
                          refine x_iload dL_isBest_615 rfl ?_
                          refine x_aloadN dL_isBest_617 rfl ?_
                          refine x_ifnull_n (tgt := 662) dL_isBest_619 rfl ?_
                          refine x_iconst dL_isBest_662 ?_
                          refine x_iadd dL_isBest_663 ?_
                          refine x_istore (ls' := [(2, 0), (3, 13), (2, 45), (0, dN D), (2, 46), (2, 47), (0, bl), (0, br), (0, al), (2, 48), (0, st), (0, l9), (0, r9), (2, 49), (0, k + 0), (0, a), (0, b), (2, -1)]) dL_isBest_664 (Nat.le_of_ble_eq_true rfl) rfl rfl ?_
                          refine x_iinc (ls' := [(2, 0), (3, 13), (2, 45), (0, dN D), (2, 46), (2, 47), (0, bl), (0, br), (0, al), (2, 48), (0, st), (0, l9), (0, r9), (2, 49), (0, k + 0), (0, a), (0, b + 1), (2, -1)]) dL_isBest_666 rfl (Nat.le_of_ble_eq_true rfl) rfl rfl ?_
                          refine x_goto (tgt := 585) dL_isBest_669 rfl ?_
                          refine Gx.fgl (ls' := [(2, 0), (3, 13), (2, 45), (0, dN D), (2, 46), (2, 47), (0, bl), (0, br), (0, al), (2, 48), (0, st), (0, l9), (0, r9), (2, 49), (0, k + 0), (0, a), (0, b + 1), (9, 0)]) 17 rfl ?_
                          exact (ihJ2 _ (by omega)).2 (k + 0) a (b + 1) (cc2 + 1) μr rfl hFJ2 (by omega) (by omega) (by first | exact cn_beg hR (by omega) | exact cn_n hR (by omega) (by omega) (fun q9 => hna610 ((alwB_iff (by omega)).mp q9.2)) | exact cn_y1 hR (by omega) (by omega) (by omega) ((alwB_iff (by omega)).mpr hal610) c655 | exact cn_y0 hR (by omega) (by omega) (by omega) ((alwB_iff (by omega)).mpr hal610) c655 | exact cn_y0 hR (by omega) (by omega) (by omega) ((alwB_iff (by omega)).mpr hal610) (by rw [c626, c633]; exact Int.lt_irrefl _)) (by omega)
                        · skip
                          refine Gx.cg (ls' := [(2, 0), (3, 13), (2, 45), (0, dN D), (2, 46), (2, 47), (0, bl), (0, br), (0, al), (2, 48), (0, st), (0, l9), (0, r9), (2, 49), (0, k), (0, a), (0, b), (9, 0)]) (st' := [(2, 50)]) (μ' := μ610) ?_ rfl rfl rfl
                          refine Gx.widen (cs2 := cc2 + 1) (ss2 := 4 * (cc2 + 1) + 64) (by omega) (by omega) ?_
                          have hF610 : Fr 50 50 1 0 μ610 μr := (fun o h1 h2 => ho610 o (by omega))
                          have hJ610 : rowJ μ610 50 D a b := hv610
                          have hlen51 : (gS (ax (ax G (23, 4) q491) (23, 4) q610)).length = 51 := (by rw [ax_len, hlen50])
                          have hX51 : Xt (GG X) (ax (ax G (23, 4) q491) (23, 4) q610) := hX50.tr (Xt.ax (ax G (23, 4) q491) (23, 4) q610)
                          have hA51 : ARR (ax (ax G (23, 4) q491) (23, 4) q610) := hA50.ax (Nat.le_of_ble_eq_true rfl)
                          have hs45 := (Xt.ax (ax G (23, 4) q491) (23, 4) q610).sh hs45
                          have hs46 := (Xt.ax (ax G (23, 4) q491) (23, 4) q610).sh hs46
                          have hs47 := (Xt.ax (ax G (23, 4) q491) (23, 4) q610).sh hs47
                          have hs48 := (Xt.ax (ax G (23, 4) q491) (23, 4) q610).sh hs48
                          have hs49 := (Xt.ax (ax G (23, 4) q491) (23, 4) q610).sh hs49
                          have hs50 : (gS (ax (ax G (23, 4) q491) (23, 4) q610))[50]? = some (23, 4) := (by have h9 := @ax_sh (ax G (23, 4) q491) (23, 4) q610; rw [hlen50] at h9; exact h9)
                          refine x_astore (ls' := [(2, 0), (3, 13), (2, 45), (0, dN D), (2, 46), (2, 47), (0, bl), (0, br), (0, al), (2, 48), (0, st), (0, l9), (0, r9), (2, 49), (0, k), (0, a), (0, b), (2, 50)]) dL_isBest_613 (Nat.le_of_ble_eq_true rfl) rfl (by first | decide | omega) rfl ?_
                          refine x_iload dL_isBest_615 rfl ?_
                          refine x_aload dL_isBest_617 rfl (by first | decide | omega) ?_
                          refine x_ifnull_r dL_isBest_619 (by omega) ?_
                          refine x_iload dL_isBest_622 rfl ?_
                          refine x_iload dL_isBest_624 rfl ?_
                          refine x_icmp_ne (tgt := 636) dL_isBest_626 rfl (R32.in (by omega)) (R32.in (by omega)) (fun c626 => ?_) (fun c626 => ?_)
                          · skip
                            refine x_aload dL_isBest_636 rfl (by first | decide | omega) ?_
                            refine x_iload dL_isBest_638 rfl ?_
                            refine x_iload dL_isBest_640 rfl ?_
                            refine x_aload dL_isBest_642 rfl (by first | decide | omega) ?_
                            refine x_iload dL_isBest_644 rfl ?_
                            refine x_iload dL_isBest_646 rfl ?_
                            refine x_aload dL_isBest_648 rfl (by first | decide | omega) ?_
                            refine x_iconst dL_isBest_650 ?_
                            refine x_ialdx (o := 47) (n := nn) (x := way D 0) dL_isBest_651 rfl hs47 (by omega) (by omega) ((congrFun (hF610.at (by omega) (by omega)) _).trans ((congrFun (hFJ2.at (by omega) (by omega)) _).trans ((congrFun (hF1008.at (by omega) (by omega)) _).trans ((congrFun (hF491.at (by omega) (by omega)) _).trans ((congrFun (hF407.at (by omega) (by omega)) _).trans (hW _ (by omega) (by omega))))))) ?_
                            have hr1012 := way_b D 0
                            refine x_callSP (as := [(2, 50), (0, a), (0, b), (2, 49), (0, l9), (0, r9), (0, way D 0)]) (rest := [(0, k)]) (k := 4) fL_isBest_652.g ⟨Nat.le_of_ble_eq_true rfl, Nat.le_of_ble_eq_true rfl⟩ ⟨show cc2 + 1 ≤ 30000 by omega, show 4 * (cc2 + 1) + 64 ≤ 130000 by omega⟩ xK_A (wf_gd hX51 hA51 ((GD.cg hD_1008 (fun o h1 => ((hF610.at (by omega) (by omega)).trans (hFJ2.at (by omega) (by omega))))))) rfl rfl rfl rfl rfl (Nat.le_of_ble_eq_true rfl) ⟨fun _ => (by omega), ⟨nt_no (by decide), ⟨nt_no (by decide), ⟨fun _ => (by omega), ⟨nt_no (by decide), ⟨nt_no (by decide), ⟨nt_no (by decide), trivial⟩⟩⟩⟩⟩⟩⟩ (by decide) (show Wp (ax (ax G (23, 4) q491) (23, 4) q610) M_L_isAhead 0 [(2, 50), (0, a), (0, b), (2, 49), (0, l9), (0, r9), (0, way D 0), (9, 0), (9, 0), (9, 0), (9, 0)] [] μ610 (pP 0 (am_b (keyq D (a, b) < keyq D (l9, r9))) μ610) from (s_L_isAheadJ50 (ax (ax G (23, 4) q491) (23, 4) q610) D a b l9 r9 μ610 hok hs50 hs49 hJ610 (rowJ.cg hJ491 (fun o h1 => ((hF610.at (by omega) (by omega)).trans ((hFJ2.at (by omega) (by omega)).trans (hF1008.at (by omega) (by omega)))))) hal610 hal491 (by omega) (by omega))) ?_
                            have hf1013 := am_b_r (keyq D (a, b) < keyq D (l9, r9))
                            refine x_if_eq (tgt := 662) dL_isBest_655 rfl (R32.in (by have := am_b_r ((keyq D (a, b) < keyq D (l9, r9))); omega)) (fun c655 => ?_) (fun c655 => ?_)
                            · skip
                              replace c655 := am_b0 c655
                              refine x_iconst dL_isBest_662 ?_
                              refine x_iadd dL_isBest_663 ?_
                              refine x_istore (ls' := [(2, 0), (3, 13), (2, 45), (0, dN D), (2, 46), (2, 47), (0, bl), (0, br), (0, al), (2, 48), (0, st), (0, l9), (0, r9), (2, 49), (0, k + 0), (0, a), (0, b), (2, 50)]) dL_isBest_664 (Nat.le_of_ble_eq_true rfl) rfl rfl ?_
                              refine x_iinc (ls' := [(2, 0), (3, 13), (2, 45), (0, dN D), (2, 46), (2, 47), (0, bl), (0, br), (0, al), (2, 48), (0, st), (0, l9), (0, r9), (2, 49), (0, k + 0), (0, a), (0, b + 1), (2, 50)]) dL_isBest_666 rfl (Nat.le_of_ble_eq_true rfl) rfl rfl ?_
                              refine x_goto (tgt := 585) dL_isBest_669 rfl ?_
                              refine Gx.fgl (ls' := [(2, 0), (3, 13), (2, 45), (0, dN D), (2, 46), (2, 47), (0, bl), (0, br), (0, al), (2, 48), (0, st), (0, l9), (0, r9), (2, 49), (0, k + 0), (0, a), (0, b + 1), (9, 0)]) 17 rfl ?_
                              refine Gx.drop (wf_gd hX50 hA50 ((GD.cg hD_1008 (fun o h1 => ((hF610.at (by omega) (by omega)).trans (hFJ2.at (by omega) (by omega))))))) (by rw [hlen50]; exact ⟨fun _ => (by omega), ⟨nt_no (by decide), ⟨fun _ => (by omega), ⟨nt_no (by decide), ⟨fun _ => (by omega), ⟨fun _ => (by omega), ⟨nt_no (by decide), ⟨nt_no (by decide), ⟨nt_no (by decide), ⟨fun _ => (by omega), ⟨nt_no (by decide), ⟨nt_no (by decide), ⟨nt_no (by decide), ⟨fun _ => (by omega), ⟨nt_no (by decide), ⟨nt_no (by decide), ⟨nt_no (by decide), ⟨nt_no (by decide), trivial⟩⟩⟩⟩⟩⟩⟩⟩⟩⟩⟩⟩⟩⟩⟩⟩⟩⟩) (by rw [hlen50]; exact trivial) ?_
                              exact (ihJ2 _ (by omega)).2 (k + 0) a (b + 1) (cc2 + 1) μ610 rfl ((hF610.wd (by omega) (by omega)).tr hFJ2) (by omega) (by omega) (by first | exact cn_beg hR (by omega) | exact cn_n hR (by omega) (by omega) (fun q9 => hna610 ((alwB_iff (by omega)).mp q9.2)) | exact cn_y1 hR (by omega) (by omega) (by omega) ((alwB_iff (by omega)).mpr hal610) c655 | exact cn_y0 hR (by omega) (by omega) (by omega) ((alwB_iff (by omega)).mpr hal610) c655 | exact cn_y0 hR (by omega) (by omega) (by omega) ((alwB_iff (by omega)).mpr hal610) (by rw [c626, c633]; exact Int.lt_irrefl _)) (by omega)
                            · skip
                              replace c655 := am_b1 c655
                              refine x_iconst dL_isBest_658 ?_
                              refine x_goto (tgt := 663) dL_isBest_659 rfl ?_
                              refine x_iadd dL_isBest_663 ?_
                              refine x_istore (ls' := [(2, 0), (3, 13), (2, 45), (0, dN D), (2, 46), (2, 47), (0, bl), (0, br), (0, al), (2, 48), (0, st), (0, l9), (0, r9), (2, 49), (0, k + 1), (0, a), (0, b), (2, 50)]) dL_isBest_664 (Nat.le_of_ble_eq_true rfl) rfl rfl ?_
                              refine x_iinc (ls' := [(2, 0), (3, 13), (2, 45), (0, dN D), (2, 46), (2, 47), (0, bl), (0, br), (0, al), (2, 48), (0, st), (0, l9), (0, r9), (2, 49), (0, k + 1), (0, a), (0, b + 1), (2, 50)]) dL_isBest_666 rfl (Nat.le_of_ble_eq_true rfl) rfl rfl ?_
                              refine x_goto (tgt := 585) dL_isBest_669 rfl ?_
                              refine Gx.fgl (ls' := [(2, 0), (3, 13), (2, 45), (0, dN D), (2, 46), (2, 47), (0, bl), (0, br), (0, al), (2, 48), (0, st), (0, l9), (0, r9), (2, 49), (0, k + 1), (0, a), (0, b + 1), (9, 0)]) 17 rfl ?_
                              refine Gx.drop (wf_gd hX50 hA50 ((GD.cg hD_1008 (fun o h1 => ((hF610.at (by omega) (by omega)).trans (hFJ2.at (by omega) (by omega))))))) (by rw [hlen50]; exact ⟨fun _ => (by omega), ⟨nt_no (by decide), ⟨fun _ => (by omega), ⟨nt_no (by decide), ⟨fun _ => (by omega), ⟨fun _ => (by omega), ⟨nt_no (by decide), ⟨nt_no (by decide), ⟨nt_no (by decide), ⟨fun _ => (by omega), ⟨nt_no (by decide), ⟨nt_no (by decide), ⟨nt_no (by decide), ⟨fun _ => (by omega), ⟨nt_no (by decide), ⟨nt_no (by decide), ⟨nt_no (by decide), ⟨nt_no (by decide), trivial⟩⟩⟩⟩⟩⟩⟩⟩⟩⟩⟩⟩⟩⟩⟩⟩⟩⟩) (by rw [hlen50]; exact trivial) ?_
                              exact (ihJ2 _ (by omega)).2 (k + 1) a (b + 1) (cc2 + 1) μ610 rfl ((hF610.wd (by omega) (by omega)).tr hFJ2) (by omega) (by omega) (by first | exact cn_beg hR (by omega) | exact cn_n hR (by omega) (by omega) (fun q9 => hna610 ((alwB_iff (by omega)).mp q9.2)) | exact cn_y1 hR (by omega) (by omega) (by omega) ((alwB_iff (by omega)).mpr hal610) c655 | exact cn_y0 hR (by omega) (by omega) (by omega) ((alwB_iff (by omega)).mpr hal610) c655 | exact cn_y0 hR (by omega) (by omega) (by omega) ((alwB_iff (by omega)).mpr hal610) (by rw [c626, c633]; exact Int.lt_irrefl _)) (by omega)
                          · skip
                            refine x_iload dL_isBest_629 rfl ?_
                            refine x_iload dL_isBest_631 rfl ?_
                            refine x_icmp_eq (tgt := 662) dL_isBest_633 rfl (R32.in (by omega)) (R32.in (by omega)) (fun c633 => ?_) (fun c633 => ?_)
                            · skip
                              refine x_iconst dL_isBest_662 ?_
                              refine x_iadd dL_isBest_663 ?_
                              refine x_istore (ls' := [(2, 0), (3, 13), (2, 45), (0, dN D), (2, 46), (2, 47), (0, bl), (0, br), (0, al), (2, 48), (0, st), (0, l9), (0, r9), (2, 49), (0, k + 0), (0, a), (0, b), (2, 50)]) dL_isBest_664 (Nat.le_of_ble_eq_true rfl) rfl rfl ?_
                              refine x_iinc (ls' := [(2, 0), (3, 13), (2, 45), (0, dN D), (2, 46), (2, 47), (0, bl), (0, br), (0, al), (2, 48), (0, st), (0, l9), (0, r9), (2, 49), (0, k + 0), (0, a), (0, b + 1), (2, 50)]) dL_isBest_666 rfl (Nat.le_of_ble_eq_true rfl) rfl rfl ?_
                              refine x_goto (tgt := 585) dL_isBest_669 rfl ?_
                              refine Gx.fgl (ls' := [(2, 0), (3, 13), (2, 45), (0, dN D), (2, 46), (2, 47), (0, bl), (0, br), (0, al), (2, 48), (0, st), (0, l9), (0, r9), (2, 49), (0, k + 0), (0, a), (0, b + 1), (9, 0)]) 17 rfl ?_
                              refine Gx.drop (wf_gd hX50 hA50 ((GD.cg hD_1008 (fun o h1 => ((hF610.at (by omega) (by omega)).trans (hFJ2.at (by omega) (by omega))))))) (by rw [hlen50]; exact ⟨fun _ => (by omega), ⟨nt_no (by decide), ⟨fun _ => (by omega), ⟨nt_no (by decide), ⟨fun _ => (by omega), ⟨fun _ => (by omega), ⟨nt_no (by decide), ⟨nt_no (by decide), ⟨nt_no (by decide), ⟨fun _ => (by omega), ⟨nt_no (by decide), ⟨nt_no (by decide), ⟨nt_no (by decide), ⟨fun _ => (by omega), ⟨nt_no (by decide), ⟨nt_no (by decide), ⟨nt_no (by decide), ⟨nt_no (by decide), trivial⟩⟩⟩⟩⟩⟩⟩⟩⟩⟩⟩⟩⟩⟩⟩⟩⟩⟩) (by rw [hlen50]; exact trivial) ?_
                              exact (ihJ2 _ (by omega)).2 (k + 0) a (b + 1) (cc2 + 1) μ610 rfl ((hF610.wd (by omega) (by omega)).tr hFJ2) (by omega) (by omega) (by first | exact cn_beg hR (by omega) | exact cn_n hR (by omega) (by omega) (fun q9 => hna610 ((alwB_iff (by omega)).mp q9.2)) | exact cn_y1 hR (by omega) (by omega) (by omega) ((alwB_iff (by omega)).mpr hal610) c655 | exact cn_y0 hR (by omega) (by omega) (by omega) ((alwB_iff (by omega)).mpr hal610) c655 | exact cn_y0 hR (by omega) (by omega) (by omega) ((alwB_iff (by omega)).mpr hal610) (by rw [c626, c633]; exact Int.lt_irrefl _)) (by omega)
                            · skip
                              refine x_aload dL_isBest_636 rfl (by first | decide | omega) ?_
                              refine x_iload dL_isBest_638 rfl ?_
                              refine x_iload dL_isBest_640 rfl ?_
                              refine x_aload dL_isBest_642 rfl (by first | decide | omega) ?_
                              refine x_iload dL_isBest_644 rfl ?_
                              refine x_iload dL_isBest_646 rfl ?_
                              refine x_aload dL_isBest_648 rfl (by first | decide | omega) ?_
                              refine x_iconst dL_isBest_650 ?_
                              refine x_ialdx (o := 47) (n := nn) (x := way D 0) dL_isBest_651 rfl hs47 (by omega) (by omega) ((congrFun (hF610.at (by omega) (by omega)) _).trans ((congrFun (hFJ2.at (by omega) (by omega)) _).trans ((congrFun (hF1008.at (by omega) (by omega)) _).trans ((congrFun (hF491.at (by omega) (by omega)) _).trans ((congrFun (hF407.at (by omega) (by omega)) _).trans (hW _ (by omega) (by omega))))))) ?_
                              have hr1014 := way_b D 0
                              refine x_callSP (as := [(2, 50), (0, a), (0, b), (2, 49), (0, l9), (0, r9), (0, way D 0)]) (rest := [(0, k)]) (k := 4) fL_isBest_652.g ⟨Nat.le_of_ble_eq_true rfl, Nat.le_of_ble_eq_true rfl⟩ ⟨show cc2 + 1 ≤ 30000 by omega, show 4 * (cc2 + 1) + 64 ≤ 130000 by omega⟩ xK_A (wf_gd hX51 hA51 ((GD.cg hD_1008 (fun o h1 => ((hF610.at (by omega) (by omega)).trans (hFJ2.at (by omega) (by omega))))))) rfl rfl rfl rfl rfl (Nat.le_of_ble_eq_true rfl) ⟨fun _ => (by omega), ⟨nt_no (by decide), ⟨nt_no (by decide), ⟨fun _ => (by omega), ⟨nt_no (by decide), ⟨nt_no (by decide), ⟨nt_no (by decide), trivial⟩⟩⟩⟩⟩⟩⟩ (by decide) (show Wp (ax (ax G (23, 4) q491) (23, 4) q610) M_L_isAhead 0 [(2, 50), (0, a), (0, b), (2, 49), (0, l9), (0, r9), (0, way D 0), (9, 0), (9, 0), (9, 0), (9, 0)] [] μ610 (pP 0 (am_b (keyq D (a, b) < keyq D (l9, r9))) μ610) from (s_L_isAheadJ50 (ax (ax G (23, 4) q491) (23, 4) q610) D a b l9 r9 μ610 hok hs50 hs49 hJ610 (rowJ.cg hJ491 (fun o h1 => ((hF610.at (by omega) (by omega)).trans ((hFJ2.at (by omega) (by omega)).trans (hF1008.at (by omega) (by omega)))))) hal610 hal491 (by omega) (by omega))) ?_
                              have hf1015 := am_b_r (keyq D (a, b) < keyq D (l9, r9))
                              refine x_if_eq (tgt := 662) dL_isBest_655 rfl (R32.in (by have := am_b_r ((keyq D (a, b) < keyq D (l9, r9))); omega)) (fun c655 => ?_) (fun c655 => ?_)
                              · skip
                                replace c655 := am_b0 c655
                                refine x_iconst dL_isBest_662 ?_
                                refine x_iadd dL_isBest_663 ?_
                                refine x_istore (ls' := [(2, 0), (3, 13), (2, 45), (0, dN D), (2, 46), (2, 47), (0, bl), (0, br), (0, al), (2, 48), (0, st), (0, l9), (0, r9), (2, 49), (0, k + 0), (0, a), (0, b), (2, 50)]) dL_isBest_664 (Nat.le_of_ble_eq_true rfl) rfl rfl ?_
                                refine x_iinc (ls' := [(2, 0), (3, 13), (2, 45), (0, dN D), (2, 46), (2, 47), (0, bl), (0, br), (0, al), (2, 48), (0, st), (0, l9), (0, r9), (2, 49), (0, k + 0), (0, a), (0, b + 1), (2, 50)]) dL_isBest_666 rfl (Nat.le_of_ble_eq_true rfl) rfl rfl ?_
                                refine x_goto (tgt := 585) dL_isBest_669 rfl ?_
                                refine Gx.fgl (ls' := [(2, 0), (3, 13), (2, 45), (0, dN D), (2, 46), (2, 47), (0, bl), (0, br), (0, al), (2, 48), (0, st), (0, l9), (0, r9), (2, 49), (0, k + 0), (0, a), (0, b + 1), (9, 0)]) 17 rfl ?_
                                refine Gx.drop (wf_gd hX50 hA50 ((GD.cg hD_1008 (fun o h1 => ((hF610.at (by omega) (by omega)).trans (hFJ2.at (by omega) (by omega))))))) (by rw [hlen50]; exact ⟨fun _ => (by omega), ⟨nt_no (by decide), ⟨fun _ => (by omega), ⟨nt_no (by decide), ⟨fun _ => (by omega), ⟨fun _ => (by omega), ⟨nt_no (by decide), ⟨nt_no (by decide), ⟨nt_no (by decide), ⟨fun _ => (by omega), ⟨nt_no (by decide), ⟨nt_no (by decide), ⟨nt_no (by decide), ⟨fun _ => (by omega), ⟨nt_no (by decide), ⟨nt_no (by decide), ⟨nt_no (by decide), ⟨nt_no (by decide), trivial⟩⟩⟩⟩⟩⟩⟩⟩⟩⟩⟩⟩⟩⟩⟩⟩⟩⟩) (by rw [hlen50]; exact trivial) ?_
                                exact (ihJ2 _ (by omega)).2 (k + 0) a (b + 1) (cc2 + 1) μ610 rfl ((hF610.wd (by omega) (by omega)).tr hFJ2) (by omega) (by omega) (by first | exact cn_beg hR (by omega) | exact cn_n hR (by omega) (by omega) (fun q9 => hna610 ((alwB_iff (by omega)).mp q9.2)) | exact cn_y1 hR (by omega) (by omega) (by omega) ((alwB_iff (by omega)).mpr hal610) c655 | exact cn_y0 hR (by omega) (by omega) (by omega) ((alwB_iff (by omega)).mpr hal610) c655 | exact cn_y0 hR (by omega) (by omega) (by omega) ((alwB_iff (by omega)).mpr hal610) (by rw [c626, c633]; exact Int.lt_irrefl _)) (by omega)
                              · skip
                                replace c655 := am_b1 c655
                                refine x_iconst dL_isBest_658 ?_
                                refine x_goto (tgt := 663) dL_isBest_659 rfl ?_
                                refine x_iadd dL_isBest_663 ?_
                                refine x_istore (ls' := [(2, 0), (3, 13), (2, 45), (0, dN D), (2, 46), (2, 47), (0, bl), (0, br), (0, al), (2, 48), (0, st), (0, l9), (0, r9), (2, 49), (0, k + 1), (0, a), (0, b), (2, 50)]) dL_isBest_664 (Nat.le_of_ble_eq_true rfl) rfl rfl ?_
                                refine x_iinc (ls' := [(2, 0), (3, 13), (2, 45), (0, dN D), (2, 46), (2, 47), (0, bl), (0, br), (0, al), (2, 48), (0, st), (0, l9), (0, r9), (2, 49), (0, k + 1), (0, a), (0, b + 1), (2, 50)]) dL_isBest_666 rfl (Nat.le_of_ble_eq_true rfl) rfl rfl ?_
                                refine x_goto (tgt := 585) dL_isBest_669 rfl ?_
                                refine Gx.fgl (ls' := [(2, 0), (3, 13), (2, 45), (0, dN D), (2, 46), (2, 47), (0, bl), (0, br), (0, al), (2, 48), (0, st), (0, l9), (0, r9), (2, 49), (0, k + 1), (0, a), (0, b + 1), (9, 0)]) 17 rfl ?_
                                refine Gx.drop (wf_gd hX50 hA50 ((GD.cg hD_1008 (fun o h1 => ((hF610.at (by omega) (by omega)).trans (hFJ2.at (by omega) (by omega))))))) (by rw [hlen50]; exact ⟨fun _ => (by omega), ⟨nt_no (by decide), ⟨fun _ => (by omega), ⟨nt_no (by decide), ⟨fun _ => (by omega), ⟨fun _ => (by omega), ⟨nt_no (by decide), ⟨nt_no (by decide), ⟨nt_no (by decide), ⟨fun _ => (by omega), ⟨nt_no (by decide), ⟨nt_no (by decide), ⟨nt_no (by decide), ⟨fun _ => (by omega), ⟨nt_no (by decide), ⟨nt_no (by decide), ⟨nt_no (by decide), ⟨nt_no (by decide), trivial⟩⟩⟩⟩⟩⟩⟩⟩⟩⟩⟩⟩⟩⟩⟩⟩⟩⟩) (by rw [hlen50]; exact trivial) ?_
                                exact (ihJ2 _ (by omega)).2 (k + 1) a (b + 1) (cc2 + 1) μ610 rfl ((hF610.wd (by omega) (by omega)).tr hFJ2) (by omega) (by omega) (by first | exact cn_beg hR (by omega) | exact cn_n hR (by omega) (by omega) (fun q9 => hna610 ((alwB_iff (by omega)).mp q9.2)) | exact cn_y1 hR (by omega) (by omega) (by omega) ((alwB_iff (by omega)).mpr hal610) c655 | exact cn_y0 hR (by omega) (by omega) (by omega) ((alwB_iff (by omega)).mpr hal610) c655 | exact cn_y0 hR (by omega) (by omega) (by omega) ((alwB_iff (by omega)).mpr hal610) (by rw [c626, c633]; exact Int.lt_irrefl _)) (by omega)
                exact (hJ2 _).1 0 (-60) (cs9 + 1) μ_1008 rfl Fr.rf (by omega) rfl (by omega)
              · skip
                exact (c533 hu9).elim
          · skip
            refine x_goto (tgt := 720) dL_isBest_478 rfl ?_
            refine x_iinc (ls' := [(2, 0), (3, 13), (2, 45), (0, dN D), (2, 46), (2, 47), (0, bl), (0, br), (0, al), (2, 48), (0, st + 1), (0, l9), (0, r9), (9, 0), (9, 0), (9, 0), (9, 0), (9, 0)]) dL_isBest_720 rfl (Nat.le_of_ble_eq_true rfl) rfl rfl ?_
            refine x_goto (tgt := 407) dL_isBest_723 rfl ?_
            refine Gx.fgl (ls' := [(2, 0), (3, 13), (2, 45), (0, dN D), (2, 46), (2, 47), (0, bl), (0, br), (0, al), (2, 48), (0, st + 1), (9, 0), (0, r9), (9, 0), (9, 0), (9, 0), (9, 0), (9, 0)]) 11 rfl ?_
            refine Gx.fgl (ls' := [(2, 0), (3, 13), (2, 45), (0, dN D), (2, 46), (2, 47), (0, bl), (0, br), (0, al), (2, 48), (0, st + 1), (9, 0), (9, 0), (9, 0), (9, 0), (9, 0), (9, 0), (9, 0)]) 12 rfl ?_
            exact ih407 (4 - (st + 1)).toNat (ms_lt hn407 c410) (st + 1) cs9 μs rfl hF407 (by first | omega | assumption) (by first | omega | assumption)
  exact hL407 _ 0 cc μ rfl Fr.rf (by first | omega | assumption) (by first | omega | assumption)
