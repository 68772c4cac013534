/-! ===== The law's text() ===== -/
section text1
variable {G G' : AG} {μ μ1 μ' : Mu}
theorem sc_x (h : Xt G G') : sc G' = sc G := by funext k; unfold sc sx; rw [h.2.2.2.1, h.2.2.2.2.1]
theorem lkn_x (h : Xt G G') : lkn G' = lkn G := by unfold lkn; rw [sc_x h]
theorem lwd_x (h : Xt G G') (k : Int) : lwd G' k = lwd G k := by unfold lwd; rw [sc_x h]
theorem lkd_x (h : Xt G G') (k : Int) : lkd G' k = lkd G k := by unfold lkd; rw [sc_x h]
theorem lpl_x (h : Xt G G') (k : Int) : lpl G' k = lpl G k := by unfold lpl lpo; rw [sc_x h]
theorem lmy_x (h : Xt G G') : lmy G' = lmy G := by
  have e : ltm G' = ltm G := by funext i; unfold ltm; simp only [lkd_x h]
  have e2 : ∀ (f : Nat) (n : Int), lmyF G' f n = lmyF G f n := by
    intro f
    induction f with
    | zero => intro n; rfl
    | succ f ih => intro n; unfold lmyF; rw [sc_x h, e, lkd_x h, ih]
  exact e2 8 0
theorem gk_x (h : Xt G G') (hk : (gK G 14 : Int) ≤ 260) : (gK G' 14 : Int) ≤ 260 := by rw [h.2.2.2.1]; exact hk
/-- what a kind is called -/
def knum (k : Int) : Int := if k = 1 then 8 else if k = 2 then 16 else 32
theorem ishl4 {k : Int} (h : 1 ≤ k ∧ k ≤ 3) : am_ishl 4 k = knum k := by
  have : k = 1 ∨ k = 2 ∨ k = 3 := by omega
  rcases this with rfl | rfl | rfl <;> decide +kernel
theorem knum_r (k : Int) : 8 ≤ knum k ∧ knum k ≤ 32 := by unfold knum; split <;> (try split) <;> omega
def txH (G : AG) : List Int := [] ++ ltx 1 ++ dgl (lkn G) ++ ltx 2 ++ dgl (lwd G 1) ++ ltx 3 ++ dgl (lwd G 2) ++ ltx 4 ++ dgl (lwd G 3) ++ ltx 5
def txL (G : AG) : Nat → List Int
  | 0 => txH G
  | k + 1 => [] ++ txL G k ++ ltx 6 ++ dgl (knum (lkd G k)) ++ ltx 0 ++ ltx (if lpl G k < 0 then 7 else 8) ++ dgl (if 0 ≤ lpl G k then lpl G k else -lpl G k) ++ ltx 5
theorem ltx_l0 : (ltx 0).length = 1 := by decide +kernel
theorem ltx_l1 : (ltx 1).length = 15 := by decide +kernel
theorem ltx_l2 : (ltx 2).length = 8 := by decide +kernel
theorem ltx_l3 : (ltx 3).length = 9 := by decide +kernel
theorem ltx_l4 : (ltx 4).length = 9 := by decide +kernel
theorem ltx_l5 : (ltx 5).length = 1 := by decide +kernel
theorem ltx_l6 : (ltx 6).length = 5 := by decide +kernel
theorem ltx_l7 : (ltx 7).length = 2 := by decide +kernel
theorem ltx_l8 : (ltx 8).length = 0 := by decide +kernel
theorem txH_l (G : AG) : 46 ≤ (txH G).length ∧ (txH G).length ≤ 50 := by
  have h1 := dgl_l (lkn G)
  have h2 := dgl_l (lwd G 1)
  have h3 := dgl_l (lwd G 2)
  have h4 := dgl_l (lwd G 3)
  unfold txH
  simp only [List.length_append, List.length_nil, ltx_l1, ltx_l2, ltx_l3, ltx_l4, ltx_l5]
  omega
theorem txL_l (G : AG) : ∀ k : Nat, 46 ≤ (txL G k).length ∧ (txL G k).length ≤ 50 + 13 * k := by
  intro k
  induction k with
  | zero => exact txH_l G
  | succ k ih =>
    have h1 := dgl_l (knum (lkd G k))
    have h2 := dgl_l (if 0 ≤ lpl G k then lpl G k else -lpl G k)
    have h3 : (ltx (if lpl G k < 0 then 7 else 8)).length ≤ 2 := by split <;> decide +kernel
    unfold txL
    simp only [List.length_append, List.length_nil, ltx_l6, ltx_l0, ltx_l5]
    omega
theorem txL_a (G : AG) : ∀ k : Nat, asc (txL G k) := by
  have t : ∀ i : Nat, i < 9 → asc (ltx i) := fun i hi => asc_ltx i hi
  have d : ∀ v : Int, 0 ≤ v ∧ v ≤ 99 → asc (dgl v) := fun v h => asc_dgl h
  have n : asc [] := fun x hx => absurd hx List.not_mem_nil
  intro k
  induction k with
  | zero =>
    have h1 := lkn_r G
    have h2 := lwd_r G 1
    have h3 := lwd_r G 2
    have h4 := lwd_r G 3
    exact asc_app (asc_app (asc_app (asc_app (asc_app (asc_app (asc_app (asc_app (asc_app n (t 1 (by decide))) (d _ (by omega))) (t 2 (by decide))) (d _ (by omega))) (t 3 (by decide))) (d _ (by omega))) (t 4 (by decide))) (d _ (by omega))) (t 5 (by decide))
  | succ k ih =>
    have h1 := knum_r (lkd G k)
    have h2 := lpl_r G k
    exact asc_app (asc_app (asc_app (asc_app (asc_app (asc_app (asc_app n ih) (t 6 (by decide))) (d _ (by omega))) (t 0 (by decide))) (t _ (by split <;> decide))) (d _ (by omega))) (t 5 (by decide))
def txP (G : AG) (μ : Mu) : AG → Option AV → Mu → Prop := fun G' r μ' => ∃ q1 q2 : Nat, G' = sx2 G q1 q2 (txL G (lmy G).toNat).length ∧ r = some (2, ((gS G).length : Int)) ∧ SBw G μ μ' (txL G (lmy G).toNat)
end text1
theorem s_L_text_loop (G : AG) (μ : Mu) (hk4 : (gK G 14 : Int) ≤ 260) (hw : wfm G μ) : ∀ (f k : Nat), (lmy G).toNat - k = f → k ≤ (lmy G).toNat → ∀ (q1 q2 : Nat) (μ1 : Mu) (c0 s0 : Nat), c0 ≤ 20 + 20 * k → s0 ≤ 20000 + 20000 * k → SBw G μ μ1 (txL G k) → wfm (sx2 G q1 q2 (txL G k).length) μ1 →
    Gx (xK G M_L_text 500 400000 (txP G μ)) (sx2 G q1 q2 (txL G k).length) M_L_text c0 s0 69 [(3, 13), (2, ((gS G).length : Int)), (0, (k : Int))] [] μ1 := by
  have hmy := lmy_r G
  intro f
  induction f with
  | zero =>
    intro k hf hk q1 q2 μ1 c0 s0 hc hs hS hw1
    have hX := @sx2_x G q1 q2 (txL G k).length
    have hke : k = (lmy G).toNat := by omega
    refine x_iload_n dL_text_69 rfl rfl ?_
    refine x_aload_nS dL_text_70 rfl rfl ?_
    refine x_callSP (as := [(3, 13)]) (rest := [(0, (k : Int))]) (k := 2) fL_text_71.g ⟨Nat.le_of_ble_eq_true rfl, Nat.le_of_ble_eq_true rfl⟩ ⟨show c0 ≤ 500 by omega, show s0 ≤ 400000 by omega⟩ xK_A hw1 rfl rfl rfl rfl rfl (Nat.le_of_ble_eq_true rfl) ⟨nt_no (by decide), trivial⟩ (by decide) (s_L_many (sx2 G q1 q2 (txL G k).length) μ1 (gk_x hX hk4)) ?_
    refine Gx.topE (lmy_x hX) ?_
    refine x_icmp_ge (tgt := 152) dL_text_74 rfl (R32.in (by omega)) (R32.in (by omega)) (fun _ => ?_) (fun q => absurd q (by omega))
    refine x_aload_n dL_text_152 rfl rfl (by omega) ?_
    exact x_aret dL_text_153 rfl (Or.inl ⟨_, rfl⟩) ⟨show c0 ≤ 500 by omega, show s0 ≤ 400000 by omega⟩ hX ⟨q1, q2, by rw [← hke], rfl, by rw [← hke]; exact hS⟩
  | succ f ih =>
    intro k hf hk q1 q2 μ1 c0 s0 hc hs hS hw1
    have hX := @sx2_x G q1 q2 (txL G k).length
    have hL2 := @sx2_len G q1 q2 (txL G k).length
    have hn0 := txL_l G k
    have hkd := lkd_r G k
    have hkn := knum_r (lkd G k)
    have hpl := lpl_r G k
    have hLL : (((gS (sx2 G q1 q2 (txL G k).length)).length : Nat) : Int) = ((gS G).length : Int) + 2 := by omega
    have hol : lsok (((gS (sx2 G q1 q2 (txL G k).length)).length : Nat) : Int) [(3, 13), (2, ((gS G).length : Int)), (0, (k : Int))] := ⟨nt_no (by decide), fun _ => (by show ((gS G).length : Int) < _; omega), nt_no (by decide), trivial⟩
    have hst : STs (sx2 G q1 q2 (txL G k).length) μ1 (gS G).length ((gS G).length + 1) (txL G k).length ∧ rwl (μ1 (((gS G).length + 1 : Nat) : Int)) (txL G k) ∧ asc (txL G k) := by
      have hr : rwl (μ1 (((gS G).length + 1 : Nat) : Int)) (txL G k) := hS.2.1
      refine ⟨⟨⟨sx2_s, sx2_r⟩, ⟨hS.1.1, hS.1.2⟩, by omega, fun i i0 i1 => ?_⟩, hr, txL_a G k⟩
      obtain ⟨j, rfl⟩ : ∃ j : Nat, i = j := ⟨i.toNat, by omega⟩
      rw [hr j (by omega)]
      refine txL_a G k _ ?_
      rw [List.getD_eq_getElem?_getD, List.getElem?_eq_getElem (by omega)]
      exact List.getElem_mem _
    refine x_iload_n dL_text_69 rfl rfl ?_
    refine x_aload_nS dL_text_70 rfl rfl ?_
    refine x_callSP (as := [(3, 13)]) (rest := [(0, (k : Int))]) (k := 2) fL_text_71.g ⟨Nat.le_of_ble_eq_true rfl, Nat.le_of_ble_eq_true rfl⟩ ⟨show c0 ≤ 500 by omega, show s0 ≤ 400000 by omega⟩ xK_A hw1 rfl rfl rfl rfl rfl (Nat.le_of_ble_eq_true rfl) ⟨nt_no (by decide), trivial⟩ (by decide) (s_L_many (sx2 G q1 q2 (txL G k).length) μ1 (gk_x hX hk4)) ?_
    refine Gx.topE (lmy_x hX) ?_
    refine x_icmp_ge (tgt := 152) dL_text_74 rfl (R32.in (by omega)) (R32.in (by omega)) (fun q => absurd q (by omega)) (fun _ => ?_)
    refine bt_new fL_text_77 dL_text_80 fL_text_81 ⟨Nat.le_of_ble_eq_true rfl, Nat.le_of_ble_eq_true rfl⟩ ⟨show c0 + 2 ≤ 500 by omega, show s0 + 20 ≤ 400000 by omega⟩ xK_A hw1 (Nat.le_of_ble_eq_true rfl) hol trivial (fun G0 μ0 hB0 => ?_)
    have hl0 : ([] : List Int).length = 0 := rfl
    refine x_aload_n dL_text_84 rfl rfl (by omega) ?_
    refine bt_appS (l' := txL G k) fL_text_85 ⟨Nat.le_of_ble_eq_true rfl, Nat.le_of_ble_eq_true rfl⟩ ⟨show c0 + 2 + 1 ≤ 500 by omega, show s0 + 20 + 1000 ≤ 400000 by omega⟩ xK_A hB0 hst ⟨by omega, by omega⟩ rfl (Nat.le_of_ble_eq_true rfl) hol trivial (fun G1 μ1b N1 hN1 hB1 => ?_)
    have hl1 : (([] : List Int) ++ txL G k).length = (([] : List Int)).length + (txL G k).length := by rw [List.length_append]
    have hm1 := hN1
    unfold nxN at hm1
    have hn1 : N1 = (txL G k).length := by omega
    clear hm1
    refine x_ldcL (i := 6) (q := (81, "note ")) dL_text_88 rfl rfl rfl ?_
    refine bt_appL (i := 6) fL_text_90 ⟨Nat.le_of_ble_eq_true rfl, Nat.le_of_ble_eq_true rfl⟩ ⟨show c0 + 2 + 1 + 1 ≤ 500 by omega, show s0 + 20 + 1000 + 1000 ≤ 400000 by omega⟩ xK_A hB1 (by decide) ⟨by omega, by omega⟩ rfl (Nat.le_of_ble_eq_true rfl) hol trivial (fun G2 μ2 N2 hN2 hB2 => ?_)
    have hl2 : (([] : List Int) ++ txL G k ++ ltx 6).length = (([] : List Int) ++ txL G k).length + 5 := by rw [List.length_append, ltx_l6]
    have hm2 := hN2
    unfold nxN at hm2
    have hn2 : N2 = 2 * (txL G k).length + 2 := by rw [ltx_l6] at hm2; omega
    clear hm2
    refine x_iconst dL_text_93 ?_
    refine x_aload_nS dL_text_94 rfl rfl ?_
    refine x_iload_n dL_text_95 rfl rfl ?_
    refine x_callSP (as := [(3, 13), (0, (k : Int))]) (rest := [(0, 4), (2, ((gS (sx2 G q1 q2 (txL G k).length)).length : Int))]) (k := 0) fL_text_96.g ⟨Nat.le_of_ble_eq_true rfl, Nat.le_of_ble_eq_true rfl⟩ ⟨show c0 + 2 + 1 + 1 ≤ 500 by omega, show s0 + 20 + 1000 + 1000 ≤ 400000 by omega⟩ xK_A hB2.2.1 rfl rfl rfl rfl rfl (Nat.le_of_ble_eq_true rfl) ⟨nt_no (by decide), nt_no (by decide), trivial⟩ (by decide) (s_L_kind G2 (k : Int) μ2 (gk_x (hX.tr hB2.1) hk4) (by omega)) ?_
    refine Gx.topE (lkd_x (hX.tr hB2.1) k) ?_
    refine x_ishl dL_text_99 ?_
    refine Gx.topE (ishl4 hkd) ?_
    refine bt_appI fL_text_100 ⟨Nat.le_of_ble_eq_true rfl, Nat.le_of_ble_eq_true rfl⟩ ⟨show c0 + 2 + 1 + 1 + 1 ≤ 500 by omega, show s0 + 20 + 1000 + 1000 + 1000 ≤ 400000 by omega⟩ xK_A hB2 (by omega) ⟨by omega, by omega⟩ (Nat.le_of_ble_eq_true rfl) hol trivial (fun G3 μ3 N3 hN3 hB3 => ?_)
    have hd3 := dgl_l (knum (lkd G k))
    have hl3 : (([] : List Int) ++ txL G k ++ ltx 6 ++ dgl (knum (lkd G k))).length = (([] : List Int) ++ txL G k ++ ltx 6).length + (dgl (knum (lkd G k))).length := by rw [List.length_append]
    have hm3 := hN3
    unfold nxN at hm3
    have hn3 : N3 = 2 * (txL G k).length + 2 := by omega
    clear hm3
    refine x_ldcL (i := 0) (q := (21, " ")) dL_text_103 rfl rfl rfl ?_
    refine bt_appL (i := 0) fL_text_105 ⟨Nat.le_of_ble_eq_true rfl, Nat.le_of_ble_eq_true rfl⟩ ⟨show c0 + 2 + 1 + 1 + 1 + 1 ≤ 500 by omega, show s0 + 20 + 1000 + 1000 + 1000 + 1000 ≤ 400000 by omega⟩ xK_A hB3 (by decide) ⟨by omega, by omega⟩ rfl (Nat.le_of_ble_eq_true rfl) hol trivial (fun G4 μ4 N4 hN4 hB4 => ?_)
    have hl4 : (([] : List Int) ++ txL G k ++ ltx 6 ++ dgl (knum (lkd G k)) ++ ltx 0).length = (([] : List Int) ++ txL G k ++ ltx 6 ++ dgl (knum (lkd G k))).length + 1 := by rw [List.length_append, ltx_l0]
    have hm4 := hN4
    unfold nxN at hm4
    have hn4 : N4 = 2 * (txL G k).length + 2 := by rw [ltx_l0] at hm4; omega
    clear hm4
    refine x_aload_nS dL_text_108 rfl rfl ?_
    refine x_iload_n dL_text_109 rfl rfl ?_
    refine x_callSP (as := [(3, 13), (0, (k : Int))]) (rest := [(2, ((gS (sx2 G q1 q2 (txL G k).length)).length : Int))]) (k := 0) fL_text_110.g ⟨Nat.le_of_ble_eq_true rfl, Nat.le_of_ble_eq_true rfl⟩ ⟨show c0 + 2 + 1 + 1 + 1 + 1 ≤ 500 by omega, show s0 + 20 + 1000 + 1000 + 1000 + 1000 ≤ 400000 by omega⟩ xK_A hB4.2.1 rfl rfl rfl rfl rfl (Nat.le_of_ble_eq_true rfl) ⟨nt_no (by decide), nt_no (by decide), trivial⟩ (by decide) (s_L_place G4 (k : Int) μ4 (gk_x (hX.tr hB4.1) hk4) (by omega)) ?_
    refine Gx.topE (lpl_x (hX.tr hB4.1) k) ?_
    have key : ∀ z : Int, z = ((20 + (if lpl G k < 0 then 7 else 8) : Nat) : Int) → Gx (xK G M_L_text 500 400000 (txP G μ)) G4 M_L_text (c0 + 2 + 1 + 1 + 1 + 1) (s0 + 20 + 1000 + 1000 + 1000 + 1000) 123 [(3, 13), (2, ((gS G).length : Int)), (0, (k : Int))] [(3, z), (2, ((gS (sx2 G q1 q2 (txL G k).length)).length : Int))] μ4 := by
      intro z hz
      have h3 : (ltx (if lpl G k < 0 then 7 else 8)).length ≤ 2 := by split <;> decide +kernel
      refine bt_appL (i := if lpl G k < 0 then 7 else 8) fL_text_123 ⟨Nat.le_of_ble_eq_true rfl, Nat.le_of_ble_eq_true rfl⟩ ⟨show c0 + 2 + 1 + 1 + 1 + 1 + 1 ≤ 500 by omega, show s0 + 20 + 1000 + 1000 + 1000 + 1000 + 1000 ≤ 400000 by omega⟩ xK_A hB4 (by split <;> decide) ⟨by omega, by omega⟩ hz (Nat.le_of_ble_eq_true rfl) hol trivial (fun G5 μ5 N5 hN5 hB5 => ?_)
      have hl5 : (([] : List Int) ++ txL G k ++ ltx 6 ++ dgl (knum (lkd G k)) ++ ltx 0 ++ ltx (if lpl G k < 0 then 7 else 8)).length = (([] : List Int) ++ txL G k ++ ltx 6 ++ dgl (knum (lkd G k)) ++ ltx 0).length + (ltx (if lpl G k < 0 then 7 else 8)).length := by rw [List.length_append]
      have hm5 := hN5
      unfold nxN at hm5
      have hn5 : N5 = 2 * (txL G k).length + 2 := by omega
      clear hm5
      refine x_aload_nS dL_text_126 rfl rfl ?_
      refine x_iload_n dL_text_127 rfl rfl ?_
      refine x_callSP (as := [(3, 13), (0, (k : Int))]) (rest := [(2, ((gS (sx2 G q1 q2 (txL G k).length)).length : Int))]) (k := 0) fL_text_128.g ⟨Nat.le_of_ble_eq_true rfl, Nat.le_of_ble_eq_true rfl⟩ ⟨show c0 + 2 + 1 + 1 + 1 + 1 + 1 ≤ 500 by omega, show s0 + 20 + 1000 + 1000 + 1000 + 1000 + 1000 ≤ 400000 by omega⟩ xK_A hB5.2.1 rfl rfl rfl rfl rfl (Nat.le_of_ble_eq_true rfl) ⟨nt_no (by decide), nt_no (by decide), trivial⟩ (by decide) (s_L_place G5 (k : Int) μ5 (gk_x (hX.tr hB5.1) hk4) (by omega)) ?_
      refine Gx.topE (lpl_x (hX.tr hB5.1) k) ?_
      refine x_abs fL_text_131 (R32.in (by omega)) (Nat.le_of_ble_eq_true rfl) ⟨Nat.le_of_ble_eq_true rfl, Nat.le_of_ble_eq_true rfl, show c0 + 2 + 1 + 1 + 1 + 1 + 1 ≤ 500 by omega, show s0 + 20 + 1000 + 1000 + 1000 + 1000 + 1000 ≤ 400000 by omega⟩ ?_
      refine bt_appI fL_text_134 ⟨Nat.le_of_ble_eq_true rfl, Nat.le_of_ble_eq_true rfl⟩ ⟨show c0 + 2 + 1 + 1 + 1 + 1 + 1 + 1 ≤ 500 by omega, show s0 + 20 + 1000 + 1000 + 1000 + 1000 + 1000 + 1000 ≤ 400000 by omega⟩ xK_A hB5 (by omega) ⟨by omega, by omega⟩ (Nat.le_of_ble_eq_true rfl) hol trivial (fun G6 μ6 N6 hN6 hB6 => ?_)
      have hd6 := dgl_l (if 0 ≤ lpl G k then lpl G k else -lpl G k)
      have hl6 : (([] : List Int) ++ txL G k ++ ltx 6 ++ dgl (knum (lkd G k)) ++ ltx 0 ++ ltx (if lpl G k < 0 then 7 else 8) ++ dgl (if 0 ≤ lpl G k then lpl G k else -lpl G k)).length = (([] : List Int) ++ txL G k ++ ltx 6 ++ dgl (knum (lkd G k)) ++ ltx 0 ++ ltx (if lpl G k < 0 then 7 else 8)).length + (dgl (if 0 ≤ lpl G k then lpl G k else -lpl G k)).length := by rw [List.length_append]
      have hm6 := hN6
      unfold nxN at hm6
      have hn6 : N6 = 2 * (txL G k).length + 2 := by omega
      clear hm6
      refine x_ldcL (i := 5) (q := (76, ";")) dL_text_137 rfl rfl rfl ?_
      refine bt_appL (i := 5) fL_text_139 ⟨Nat.le_of_ble_eq_true rfl, Nat.le_of_ble_eq_true rfl⟩ ⟨show c0 + 2 + 1 + 1 + 1 + 1 + 1 + 1 + 1 ≤ 500 by omega, show s0 + 20 + 1000 + 1000 + 1000 + 1000 + 1000 + 1000 + 1000 ≤ 400000 by omega⟩ xK_A hB6 (by decide) ⟨by omega, by omega⟩ rfl (Nat.le_of_ble_eq_true rfl) hol trivial (fun G7 μ7 N7 hN7 hB7 => ?_)
      have hl7 : (([] : List Int) ++ txL G k ++ ltx 6 ++ dgl (knum (lkd G k)) ++ ltx 0 ++ ltx (if lpl G k < 0 then 7 else 8) ++ dgl (if 0 ≤ lpl G k then lpl G k else -lpl G k) ++ ltx 5).length = (([] : List Int) ++ txL G k ++ ltx 6 ++ dgl (knum (lkd G k)) ++ ltx 0 ++ ltx (if lpl G k < 0 then 7 else 8) ++ dgl (if 0 ≤ lpl G k then lpl G k else -lpl G k)).length + 1 := by rw [List.length_append, ltx_l5]
      have hm7 := hN7
      unfold nxN at hm7
      have hn7 : N7 = 2 * (txL G k).length + 2 := by rw [ltx_l5] at hm7; omega
      clear hm7
      refine Gx.fgl (ls' := [(3, 13), (9, 0), (0, (k : Int))]) 1 rfl ?_
      refine bt_str (Gb := G) fL_text_142 ⟨Nat.le_of_ble_eq_true rfl, Nat.le_of_ble_eq_true rfl⟩ ⟨show c0 + 2 + 1 + 1 + 1 + 1 + 1 + 1 + 1 + 2 ≤ 500 by omega, show s0 + 20 + 1000 + 1000 + 1000 + 1000 + 1000 + 1000 + 1000 + 1000 ≤ 400000 by omega⟩ xK_A hB7 ⟨by omega, by omega⟩ hX (wfm_cg hw hS.2.2) (Nat.le_of_ble_eq_true rfl) ⟨nt_no (by decide), nt_no (by decide), nt_no (by decide), trivial⟩ trivial (fun q3 q4 μ9 hS9 hw9 => ?_)
      refine x_astore_n (ls' := [(3, 13), (2, ((gS G).length : Int)), (0, (k : Int))]) dL_text_145 rfl (Nat.le_of_ble_eq_true rfl) rfl (by omega) rfl ?_
      refine x_iinc (ls' := [(3, 13), (2, ((gS G).length : Int)), (0, ((k + 1 : Nat) : Int))]) dL_text_146 rfl (Nat.le_of_ble_eq_true rfl) rfl rfl ?_
      refine x_goto (tgt := 69) dL_text_149 rfl ?_
      exact ih (k + 1) (by omega) (by omega) q3 q4 μ9 (c0 + 2 + 1 + 1 + 1 + 1 + 1 + 1 + 1 + 2) (s0 + 20 + 1000 + 1000 + 1000 + 1000 + 1000 + 1000 + 1000 + 1000) (by omega) (by omega) ⟨hS9.1, hS9.2.1, fun o ho => (hS9.2.2 o ho).trans (hS.2.2 o ho)⟩ hw9
    refine x_if_ge (tgt := 121) dL_text_113 rfl (R32.in (by omega)) (fun hg => ?_) (fun hg => ?_)
    · refine x_ldcL (i := 8) (q := (88, "")) dL_text_121 rfl rfl rfl ?_
      exact key _ (by rw [if_neg (by omega)])
    · refine x_ldcL (i := 7) (q := (86, "- ")) dL_text_116 rfl rfl rfl ?_
      refine x_goto (tgt := 123) dL_text_118 rfl ?_
      exact key _ (by rw [if_pos hg])
theorem s_L_text (G : AG) (μ : Mu) (hk4 : (gK G 14 : Int) ≤ 260) (hw : wfm G μ) : Gx (xK G M_L_text 500 400000 (txP G μ)) G M_L_text 0 0 0 [(3, 13), (9, 0), (9, 0)] [] μ := by
  have hmy := lmy_r G
  have h1 := lkn_r G
  have h2 := lwd_r G 1
  have h3 := lwd_r G 2
  have h4 := lwd_r G 3
  have hol : lsok ((gS G).length : Int) [(3, 13), (9, 0), (9, 0)] := ⟨nt_no (by decide), nt_no (by decide), nt_no (by decide), trivial⟩
  refine bt_new fL_text_0 dL_text_3 fL_text_4 ⟨Nat.le_of_ble_eq_true rfl, Nat.le_of_ble_eq_true rfl⟩ ⟨show 0 + 2 ≤ 500 by omega, show 0 + 20 ≤ 400000 by omega⟩ xK_A hw (Nat.le_of_ble_eq_true rfl) hol trivial (fun G0 μ0 hB0 => ?_)
  have hl0 : ([] : List Int).length = 0 := rfl
  refine x_ldcL (i := 1) (q := (58, "metre 1 2;knee ")) dL_text_7 rfl rfl rfl ?_
  refine bt_appL (i := 1) fL_text_9 ⟨Nat.le_of_ble_eq_true rfl, Nat.le_of_ble_eq_true rfl⟩ ⟨show 0 + 2 + 1 ≤ 500 by omega, show 0 + 20 + 1000 ≤ 400000 by omega⟩ xK_A hB0 (by decide) ⟨by omega, by omega⟩ rfl (Nat.le_of_ble_eq_true rfl) hol trivial (fun G1 μ1 N1 hN1 hB1 => ?_)
  have hl1 : (([] : List Int) ++ ltx 1).length = (([] : List Int)).length + 15 := by rw [List.length_append, ltx_l1]
  have hm1 := hN1
  unfold nxN at hm1
  have hn1 : N1 = 16 := by rw [ltx_l1] at hm1; omega
  clear hm1
  refine x_aload_nS dL_text_12 rfl rfl ?_
  refine x_callSP (as := [(3, 13)]) (rest := [(2, ((gS G).length : Int))]) (k := 0) fL_text_13.g ⟨Nat.le_of_ble_eq_true rfl, Nat.le_of_ble_eq_true rfl⟩ ⟨show 0 + 2 + 1 ≤ 500 by omega, show 0 + 20 + 1000 ≤ 400000 by omega⟩ xK_A hB1.2.1 rfl rfl rfl rfl rfl (Nat.le_of_ble_eq_true rfl) ⟨nt_no (by decide), trivial⟩ (by decide) (s_L_knee G1 μ1 (gk_x hB1.1 hk4)) ?_
  refine Gx.topE (lkn_x hB1.1) ?_
  refine bt_appI fL_text_16 ⟨Nat.le_of_ble_eq_true rfl, Nat.le_of_ble_eq_true rfl⟩ ⟨show 0 + 2 + 1 + 1 ≤ 500 by omega, show 0 + 20 + 1000 + 1000 ≤ 400000 by omega⟩ xK_A hB1 (by omega) ⟨by omega, by omega⟩ (Nat.le_of_ble_eq_true rfl) hol trivial (fun G2 μ2 N2 hN2 hB2 => ?_)
  have hd2 := dgl_l (lkn G)
  have hl2 : (([] : List Int) ++ ltx 1 ++ dgl (lkn G)).length = (([] : List Int) ++ ltx 1).length + (dgl (lkn G)).length := by rw [List.length_append]
  have hm2 := hN2
  unfold nxN at hm2
  have hn2 : (N2 = 16 ∧ (([] : List Int) ++ ltx 1 ++ dgl (lkn G)).length = 16) ∨ (N2 = 34 ∧ (([] : List Int) ++ ltx 1 ++ dgl (lkn G)).length = 17) := by omega
  clear hm2
  refine x_ldcL (i := 2) (q := (67, ";wide 8 ")) dL_text_19 rfl rfl rfl ?_
  refine bt_appL (i := 2) fL_text_21 ⟨Nat.le_of_ble_eq_true rfl, Nat.le_of_ble_eq_true rfl⟩ ⟨show 0 + 2 + 1 + 1 + 1 ≤ 500 by omega, show 0 + 20 + 1000 + 1000 + 1000 ≤ 400000 by omega⟩ xK_A hB2 (by decide) ⟨by omega, by omega⟩ rfl (Nat.le_of_ble_eq_true rfl) hol trivial (fun G3 μ3 N3 hN3 hB3 => ?_)
  have hl3 : (([] : List Int) ++ ltx 1 ++ dgl (lkn G) ++ ltx 2).length = (([] : List Int) ++ ltx 1 ++ dgl (lkn G)).length + 8 := by rw [List.length_append, ltx_l2]
  have hm3 := hN3
  unfold nxN at hm3
  have hn3 : N3 = 34 := by rw [ltx_l2] at hm3; omega
  clear hm3
  refine x_aload_nS dL_text_24 rfl rfl ?_
  refine x_iconst dL_text_25 ?_
  refine x_callSP (as := [(3, 13), (0, 1)]) (rest := [(2, ((gS G).length : Int))]) (k := 0) fL_text_26.g ⟨Nat.le_of_ble_eq_true rfl, Nat.le_of_ble_eq_true rfl⟩ ⟨show 0 + 2 + 1 + 1 + 1 ≤ 500 by omega, show 0 + 20 + 1000 + 1000 + 1000 ≤ 400000 by omega⟩ xK_A hB3.2.1 rfl rfl rfl rfl rfl (Nat.le_of_ble_eq_true rfl) ⟨nt_no (by decide), nt_no (by decide), trivial⟩ (by decide) (s_L_wide G3 1 μ3 (gk_x hB3.1 hk4) (by decide)) ?_
  refine Gx.topE (lwd_x hB3.1 1) ?_
  refine bt_appI fL_text_29 ⟨Nat.le_of_ble_eq_true rfl, Nat.le_of_ble_eq_true rfl⟩ ⟨show 0 + 2 + 1 + 1 + 1 + 1 ≤ 500 by omega, show 0 + 20 + 1000 + 1000 + 1000 + 1000 ≤ 400000 by omega⟩ xK_A hB3 (by omega) ⟨by omega, by omega⟩ (Nat.le_of_ble_eq_true rfl) hol trivial (fun G4 μ4 N4 hN4 hB4 => ?_)
  have hd4 := dgl_l (lwd G 1)
  have hl4 : (([] : List Int) ++ ltx 1 ++ dgl (lkn G) ++ ltx 2 ++ dgl (lwd G 1)).length = (([] : List Int) ++ ltx 1 ++ dgl (lkn G) ++ ltx 2).length + (dgl (lwd G 1)).length := by rw [List.length_append]
  have hm4 := hN4
  unfold nxN at hm4
  have hn4 : N4 = 34 := by omega
  clear hm4
  refine x_ldcL (i := 3) (q := (72, ";wide 16 ")) dL_text_32 rfl rfl rfl ?_
  refine bt_appL (i := 3) fL_text_34 ⟨Nat.le_of_ble_eq_true rfl, Nat.le_of_ble_eq_true rfl⟩ ⟨show 0 + 2 + 1 + 1 + 1 + 1 + 1 ≤ 500 by omega, show 0 + 20 + 1000 + 1000 + 1000 + 1000 + 1000 ≤ 400000 by omega⟩ xK_A hB4 (by decide) ⟨by omega, by omega⟩ rfl (Nat.le_of_ble_eq_true rfl) hol trivial (fun G5 μ5 N5 hN5 hB5 => ?_)
  have hl5 : (([] : List Int) ++ ltx 1 ++ dgl (lkn G) ++ ltx 2 ++ dgl (lwd G 1) ++ ltx 3).length = (([] : List Int) ++ ltx 1 ++ dgl (lkn G) ++ ltx 2 ++ dgl (lwd G 1)).length + 9 := by rw [List.length_append, ltx_l3]
  have hm5 := hN5
  unfold nxN at hm5
  have hn5 : (N5 = 34 ∧ (([] : List Int) ++ ltx 1 ++ dgl (lkn G) ++ ltx 2 ++ dgl (lwd G 1) ++ ltx 3).length = 34) ∨ (N5 = 70 ∧ (([] : List Int) ++ ltx 1 ++ dgl (lkn G) ++ ltx 2 ++ dgl (lwd G 1) ++ ltx 3).length ≤ 36) := by rw [ltx_l3] at hm5; omega
  clear hm5
  refine x_aload_nS dL_text_37 rfl rfl ?_
  refine x_iconst dL_text_38 ?_
  refine x_callSP (as := [(3, 13), (0, 2)]) (rest := [(2, ((gS G).length : Int))]) (k := 0) fL_text_39.g ⟨Nat.le_of_ble_eq_true rfl, Nat.le_of_ble_eq_true rfl⟩ ⟨show 0 + 2 + 1 + 1 + 1 + 1 + 1 ≤ 500 by omega, show 0 + 20 + 1000 + 1000 + 1000 + 1000 + 1000 ≤ 400000 by omega⟩ xK_A hB5.2.1 rfl rfl rfl rfl rfl (Nat.le_of_ble_eq_true rfl) ⟨nt_no (by decide), nt_no (by decide), trivial⟩ (by decide) (s_L_wide G5 2 μ5 (gk_x hB5.1 hk4) (by decide)) ?_
  refine Gx.topE (lwd_x hB5.1 2) ?_
  refine bt_appI fL_text_42 ⟨Nat.le_of_ble_eq_true rfl, Nat.le_of_ble_eq_true rfl⟩ ⟨show 0 + 2 + 1 + 1 + 1 + 1 + 1 + 1 ≤ 500 by omega, show 0 + 20 + 1000 + 1000 + 1000 + 1000 + 1000 + 1000 ≤ 400000 by omega⟩ xK_A hB5 (by omega) ⟨by omega, by omega⟩ (Nat.le_of_ble_eq_true rfl) hol trivial (fun G6 μ6 N6 hN6 hB6 => ?_)
  have hd6 := dgl_l (lwd G 2)
  have hl6 : (([] : List Int) ++ ltx 1 ++ dgl (lkn G) ++ ltx 2 ++ dgl (lwd G 1) ++ ltx 3 ++ dgl (lwd G 2)).length = (([] : List Int) ++ ltx 1 ++ dgl (lkn G) ++ ltx 2 ++ dgl (lwd G 1) ++ ltx 3).length + (dgl (lwd G 2)).length := by rw [List.length_append]
  have hm6 := hN6
  unfold nxN at hm6
  have hn6 : N6 = 70 := by omega
  clear hm6
  refine x_ldcL (i := 4) (q := (74, ";wide 32 ")) dL_text_45 rfl rfl rfl ?_
  refine bt_appL (i := 4) fL_text_47 ⟨Nat.le_of_ble_eq_true rfl, Nat.le_of_ble_eq_true rfl⟩ ⟨show 0 + 2 + 1 + 1 + 1 + 1 + 1 + 1 + 1 ≤ 500 by omega, show 0 + 20 + 1000 + 1000 + 1000 + 1000 + 1000 + 1000 + 1000 ≤ 400000 by omega⟩ xK_A hB6 (by decide) ⟨by omega, by omega⟩ rfl (Nat.le_of_ble_eq_true rfl) hol trivial (fun G7 μ7 N7 hN7 hB7 => ?_)
  have hl7 : (([] : List Int) ++ ltx 1 ++ dgl (lkn G) ++ ltx 2 ++ dgl (lwd G 1) ++ ltx 3 ++ dgl (lwd G 2) ++ ltx 4).length = (([] : List Int) ++ ltx 1 ++ dgl (lkn G) ++ ltx 2 ++ dgl (lwd G 1) ++ ltx 3 ++ dgl (lwd G 2)).length + 9 := by rw [List.length_append, ltx_l4]
  have hm7 := hN7
  unfold nxN at hm7
  have hn7 : N7 = 70 := by rw [ltx_l4] at hm7; omega
  clear hm7
  refine x_aload_nS dL_text_50 rfl rfl ?_
  refine x_iconst dL_text_51 ?_
  refine x_callSP (as := [(3, 13), (0, 3)]) (rest := [(2, ((gS G).length : Int))]) (k := 0) fL_text_52.g ⟨Nat.le_of_ble_eq_true rfl, Nat.le_of_ble_eq_true rfl⟩ ⟨show 0 + 2 + 1 + 1 + 1 + 1 + 1 + 1 + 1 ≤ 500 by omega, show 0 + 20 + 1000 + 1000 + 1000 + 1000 + 1000 + 1000 + 1000 ≤ 400000 by omega⟩ xK_A hB7.2.1 rfl rfl rfl rfl rfl (Nat.le_of_ble_eq_true rfl) ⟨nt_no (by decide), nt_no (by decide), trivial⟩ (by decide) (s_L_wide G7 3 μ7 (gk_x hB7.1 hk4) (by decide)) ?_
  refine Gx.topE (lwd_x hB7.1 3) ?_
  refine bt_appI fL_text_55 ⟨Nat.le_of_ble_eq_true rfl, Nat.le_of_ble_eq_true rfl⟩ ⟨show 0 + 2 + 1 + 1 + 1 + 1 + 1 + 1 + 1 + 1 ≤ 500 by omega, show 0 + 20 + 1000 + 1000 + 1000 + 1000 + 1000 + 1000 + 1000 + 1000 ≤ 400000 by omega⟩ xK_A hB7 (by omega) ⟨by omega, by omega⟩ (Nat.le_of_ble_eq_true rfl) hol trivial (fun G8 μ8 N8 hN8 hB8 => ?_)
  have hd8 := dgl_l (lwd G 3)
  have hl8 : (([] : List Int) ++ ltx 1 ++ dgl (lkn G) ++ ltx 2 ++ dgl (lwd G 1) ++ ltx 3 ++ dgl (lwd G 2) ++ ltx 4 ++ dgl (lwd G 3)).length = (([] : List Int) ++ ltx 1 ++ dgl (lkn G) ++ ltx 2 ++ dgl (lwd G 1) ++ ltx 3 ++ dgl (lwd G 2) ++ ltx 4).length + (dgl (lwd G 3)).length := by rw [List.length_append]
  have hm8 := hN8
  unfold nxN at hm8
  have hn8 : N8 = 70 := by omega
  clear hm8
  refine x_ldcL (i := 5) (q := (76, ";")) dL_text_58 rfl rfl rfl ?_
  refine bt_appL (i := 5) fL_text_60 ⟨Nat.le_of_ble_eq_true rfl, Nat.le_of_ble_eq_true rfl⟩ ⟨show 0 + 2 + 1 + 1 + 1 + 1 + 1 + 1 + 1 + 1 + 1 ≤ 500 by omega, show 0 + 20 + 1000 + 1000 + 1000 + 1000 + 1000 + 1000 + 1000 + 1000 + 1000 ≤ 400000 by omega⟩ xK_A hB8 (by decide) ⟨by omega, by omega⟩ rfl (Nat.le_of_ble_eq_true rfl) hol trivial (fun G9 μ9 N9 hN9 hB9 => ?_)
  have hl9 : (([] : List Int) ++ ltx 1 ++ dgl (lkn G) ++ ltx 2 ++ dgl (lwd G 1) ++ ltx 3 ++ dgl (lwd G 2) ++ ltx 4 ++ dgl (lwd G 3) ++ ltx 5).length = (([] : List Int) ++ ltx 1 ++ dgl (lkn G) ++ ltx 2 ++ dgl (lwd G 1) ++ ltx 3 ++ dgl (lwd G 2) ++ ltx 4 ++ dgl (lwd G 3)).length + 1 := by rw [List.length_append, ltx_l5]
  have hm9 := hN9
  unfold nxN at hm9
  have hn9 : N9 = 70 := by rw [ltx_l5] at hm9; omega
  clear hm9
  refine bt_str (Gb := G) fL_text_63 ⟨Nat.le_of_ble_eq_true rfl, Nat.le_of_ble_eq_true rfl⟩ ⟨show 0 + 2 + 1 + 1 + 1 + 1 + 1 + 1 + 1 + 1 + 1 + 2 ≤ 500 by omega, show 0 + 20 + 1000 + 1000 + 1000 + 1000 + 1000 + 1000 + 1000 + 1000 + 1000 + 1000 ≤ 400000 by omega⟩ xK_A hB9 ⟨by omega, by omega⟩ Xt.rf hw (Nat.le_of_ble_eq_true rfl) hol trivial (fun q3 q4 μ9 hS9 hw9 => ?_)
  refine x_astore_n (ls' := [(3, 13), (2, ((gS G).length : Int)), (9, 0)]) dL_text_66 rfl (Nat.le_of_ble_eq_true rfl) rfl (by omega) rfl ?_
  refine x_iconst dL_text_67 ?_
  refine x_istore_n (ls' := [(3, 13), (2, ((gS G).length : Int)), (0, ((0 : Nat) : Int))]) dL_text_68 rfl (Nat.le_of_ble_eq_true rfl) rfl rfl ?_
  exact s_L_text_loop G μ hk4 hw (lmy G).toNat 0 (by omega) (by omega) q3 q4 μ9 (0 + 2 + 1 + 1 + 1 + 1 + 1 + 1 + 1 + 1 + 1 + 2) (0 + 20 + 1000 + 1000 + 1000 + 1000 + 1000 + 1000 + 1000 + 1000 + 1000 + 1000) (by omega) (by omega) hS9 hw9
