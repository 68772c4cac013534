/-! ===== The law, from behind its constructor to its end ===== -/
section lawm
variable {K : XKt} {X : AX} {G Gb : AG} {M : AMeth} {cs ss pc : Nat} {ls st : List AV} {μ μ1 : Mu} {p : Int} {D : GDt} {nn : Nat} {i q : Int}
/-- objects behind are left out -/
theorem Gx.cut (hX : Xt Gb G) (hw : wfm Gb μ) (hol : lsok ((gS Gb).length : Int) ls) (hor : lsok ((gS Gb).length : Int) st) (kk : Gx K Gb M cs ss pc ls st μ) : Gx K G M cs ss pc ls st μ :=
  Gx.re (G2 := Gb) (μ2 := μ) (ls2 := ls) (st2 := st) id ⟨hX.1.symm, hX.2.1.symm, hX.2.2.1.symm, hX.2.2.2.1.symm, hX.2.2.2.2.1.symm⟩ (fun o ho => ⟨Nat.lt_of_lt_of_le ho hX.len, (hX.2.2.2.2.2.2.2 o ho).symm, (am_el_xt hX hw ho (fun _ => rfl)).symm⟩) (fun _ _ _ _ h => h) (fun p hp => by rw [am_l_xt hX ls 0 hol]; exact hp) (am_map_xt hX hor).symm kk
theorem CJ.hd5 (h : CJ μ p) (e : ∀ o : Int, (0 ≤ o ∧ o ≤ 0) ∨ (p ≤ o ∧ o ≤ p + 4) ∨ (p + 6 ≤ o ∧ o ≤ p + 10) → μ1 o = μ o) (hh : ∀ i : Int, 0 ≤ i → i < μ p 7 → -12 ≤ μ1 (p + 5) i ∧ μ1 (p + 5) i ≤ 12) : CJ μ1 p := by
  have e0 := e 0 (by omega)
  have ep := e p (by omega)
  have e1 := e (p + 1) (by omega)
  have e2 := e (p + 2) (by omega)
  have e3 := e (p + 3) (by omega)
  have e4 := e (p + 4) (by omega)
  have e6 := e (p + 6) (by omega)
  have e7 := e (p + 7) (by omega)
  have e8 := e (p + 8) (by omega)
  have e9 := e (p + 9) (by omega)
  have e10 := e (p + 10) (by omega)
  obtain ⟨h1, h2, hI, hG, hk⟩ := h
  refine ⟨by rw [e0]; exact h1, by rw [e0]; exact h2, ?_, ?_, by rw [ep]; exact hk⟩
  · obtain ⟨i1, i2, i3, i4, i5, i6, i7, i8⟩ := hI
    refine ⟨i1, by rw [ep]; exact i2, by rw [ep]; exact i3, by rw [ep]; exact i4, fun i a b => ?_, by rw [e2]; exact i6, by rw [ep]; exact i7, by rw [ep, e1]; exact i8⟩
    rw [ep] at b
    obtain ⟨r1, r2, -, r4, r5⟩ := i5 i a b
    rw [e3, e4, e6, e7]
    exact ⟨r1, r2, hh i a b, r4, r5⟩
  · unfold PG at hG ⊢
    rw [ep, e3, e4, e7, e8, e9, e10]
    exact hG
/-- a position put -/
def hdS (D : GDt) (i q : Int) : GDt := (dN D, dX D, (fun j => if j = i then q else dH D j), dB D, dK D)
theorem GD.de (h : GD μ p D nn) : D = ((nn : Int), tr nn (fun i => μ (p + 7) (0 + i) - μ (p + 7) 0), tr nn (fun i => μ (p + 5) (0 + i)), tr nn (fun i => bmz μ p (0 + i)), μ p 3) := h.dD
theorem hdS_e {n : Int} {f : Int → Int} (hi : 0 ≤ i ∧ i < n) : (fun j => if j = i then q else tr n (fun k => f (0 + k)) j) = tr n (fun k => if 0 + k = i then q else f (0 + k)) := by
  funext j
  unfold tr
  by_cases h : j = i
  · subst h
    rw [if_pos rfl, if_pos hi]
    show q = if 0 + j = j then q else f (0 + j)
    rw [if_pos (by omega)]
  · rw [if_neg h]
    show (if 0 ≤ j ∧ j < n then f (0 + j) else 0) = if 0 ≤ j ∧ j < n then (if 0 + j = i then q else f (0 + j)) else 0
    rw [if_neg (show ¬ 0 + j = i by omega)]
theorem GD.ddP (h : GD μ p D nn) (hi : 0 ≤ i ∧ i < dN D) : ddP μ p i q = hdS D i q := by
  have hn := h.n
  have h0 := (h.nt hi).1
  show gdtF μ p (fun j => if j = i then q else μ (p + 5) j) (μ (p + 9) (μ (p + 8) i)) (μ (p + 10) (μ (p + 8) i)) (μ p 3) = _
  rw [h0, h.2.1.2.1, h.2.1.2.2]
  unfold hdS
  rw [← hn] at hi ⊢
  have hX : dX D = tr nn (fun i => μ (p + 7) (0 + i) - μ (p + 7) 0) := by rw [h.de]; rfl
  have hH : dH D = tr nn (fun i => μ (p + 5) (0 + i)) := by rw [h.de]; rfl
  have hB : dB D = tr nn (fun i => bmz μ p (0 + i)) := by rw [h.de]; rfl
  have hK : dK D = μ p 3 := by rw [h.de]; rfl
  rw [hX, hH, hB, hK, hdS_e (f := μ (p + 5)) hi]
  rfl
theorem GD.put (h : GD μ p D nn) (hi : 0 ≤ i ∧ i < dN D) (hq : -12 ≤ q ∧ q ≤ 12) (e : ∀ o : Int, (0 ≤ o ∧ o ≤ 0) ∨ (p ≤ o ∧ o ≤ p + 4) ∨ (p + 6 ≤ o ∧ o ≤ p + 10) ∨ (42 ≤ o ∧ o ≤ 42) → μ1 o = μ o) (h5 : ∀ j : Int, μ1 (p + 5) j = if j = i then q else μ (p + 5) j) : GD μ1 p (hdS D i q) nn := by
  have ep := e p (by omega)
  have hC : CJ μ1 p := h.1.hd5 (fun o h1 => e o (by omega)) (fun j j0 j1 => by
    rw [h5]
    split
    · exact hq
    · exact h.1.i.hd rfl ⟨j0, j1⟩)
  refine ⟨hC, by rw [ep, e (p + 9) (by omega), e (p + 10) (by omega)]; exact h.2.1, ?_, by rw [e 42 (by omega)]; exact h.2.2.2⟩
  rw [← h.ddP hi]
  have h0 := (h.nt hi).1
  show gdtF μ1 p (μ1 (p + 5)) (μ1 (p + 9) 0) (μ1 (p + 10) 0) (μ1 p 3) = gdtF μ p (fun j => if j = i then q else μ (p + 5) j) (μ (p + 9) (μ (p + 8) i)) (μ (p + 10) (μ (p + 8) i)) (μ p 3)
  rw [h0, ep, e (p + 9) (by omega), e (p + 10) (by omega), show μ1 (p + 5) = fun j => if j = i then q else μ (p + 5) j from funext h5]
  unfold gdtF bmz
  rw [e (p + 7) (by omega), e (p + 3) (by omega), e (p + 4) (by omega)]
/-- what text() answers to the law's text -/
theorem law_read {μ2 μ3 : Mu} {z n : Int} {m : Nat} (hm : (m : Int) = lmy (GG X)) (hb : bm (μ2 2) 0 (lnsL (GG X) m)) (hn : n = ((lnsL (GG X) m).length : Int))
    (hh : (z = -1 ∧ ¬ (rdN (μ2 2) n n.toNat S0 0).1 = 0 ∧ μ3 0 7 = 20 ∧ μ3 0 8 = 31 ∧ μ3 42 0 = (rdN (μ2 2) n n.toNat S0 0).1 ∧ μ3 42 1 = (rdN (μ2 2) n n.toNat S0 0).2.1 ∧ μ3 3 2 = μ2 3 2) ∨ (z = (rdN (μ2 2) n n.toNat S0 0).2.2.1 0 1 ∧ (rdN (μ2 2) n n.toNat S0 0).1 = 0 ∧ μ3 0 7 = 31 ∧ μ3 0 8 = 20 ∧ μ3 42 0 = 0 ∧ μ3 42 1 = -1 ∧ μ3 3 2 = 0 ∧ CPG (rdN (μ2 2) n n.toNat S0 0).2.2.1 31 μ3)) (h42 : μ3 42 7 = 31) :
    z = 5 + (m : Int) ∧ μ3 3 2 = 0 ∧ ∃ D, GD μ3 31 D m ∧ (dK D = lkn (GG X) ∧ dN D = (m : Int)) ∧ (∀ i : Int, 0 ≤ i → i < (m : Int) → dB D i = lkd (GG X) i ∧ dH D i = lpl (GG X) i) ∧ ∀ i : Int, 0 ≤ i → i + 1 < (m : Int) → dX D (i + 1) = dX D i + lwd (GG X) (lkd (GG X) i) := by
  obtain ⟨σ', e, hN⟩ := rd_text (GG X) hm hb hn
  rw [e] at hh
  rcases hh with ⟨-, h, -⟩ | ⟨h1, -, h2, h3, -, -, h4, h5⟩
  · exact absurd rfl h
  · exact ⟨h1.trans hN.1.2, h4, gd_of hm hN h5 h2 h3 (by rw [h42]; decide)⟩
end lawm
section lawA
variable {K : XKt} {X : AX}
theorem law_A (hKA : gx_A K) (hRm : 13 ≤ K.1.frames ∧ 400 ≤ K.1.locals ∧ 200000 ≤ K.1.cells ∧ 1500000 ≤ K.1.slots) (hk4 : (gK (GG X) 14 : Int) ≤ 260) {μ0 : Mu} (hC : CJ μ0 20) (h42 : μ0 42 7 < 45) (h11 : μ0 1 1 = 0) (hbb : ∀ j : Int, 0 ≤ j → j < 900 → 0 ≤ μ0 2 j ∧ μ0 2 j ≤ 255) {cs ss : Nat} (hcs : cs ≤ 1000 ∧ ss ≤ 100000)
    (KK : ∀ (m q : Nat) (μ : Mu) (D : GDt), (m : Int) = lmy (GG X) → GD μ 31 D m → (dK D = lkn (GG X) ∧ dN D = (m : Int)) → (∀ i : Int, 0 ≤ i → i < (m : Int) → dB D i = lkd (GG X) i) → (∀ i : Int, 0 ≤ i → i + 1 < (m : Int) → dX D (i + 1) = dX D i + lwd (GG X) (lkd (GG X) i)) → μ 3 2 = 0 → (∀ j : Int, 0 ≤ j → j < (m : Int) → μ 45 j = dH D j) →
      Gx K (ax (GG X) (20, m) q) M_L_law (cs + 4000) (ss + 800000) 128 [(3, 13), (2, 0), (9, 0), (0, (m : Int)), (2, 45), (9, 0), (9, 0), (9, 0)] [] μ) :
    Gx K (GG X) M_L_law cs ss 8 [(3, 13), (2, 0), (9, 0), (9, 0), (9, 0), (9, 0), (9, 0), (9, 0)] [] μ0 := by
  have hmy := lmy_r (GG X)
  have hM : (((lmy (GG X)).toNat : Nat) : Int) = lmy (GG X) := by omega
  have hw0 : wfm (GG X) μ0 := wf_cj Xt.rf ARR_GG hC h42
  have hLl := txL_l (GG X) (lmy (GG X)).toNat
  have hLa := txL_a (GG X) (lmy (GG X)).toNat
  refine x_aload_nS dL_law_8 rfl rfl ?_
  refine x_callSX (as := [(3, 13)]) (rest := []) (k := 2) (mc := 500) (ms := 400000) (P := txP (GG X) μ0) fL_law_9.g ⟨Nat.le_trans (Nat.le_of_ble_eq_true rfl) hRm.1, Nat.le_trans (Nat.le_of_ble_eq_true rfl) hRm.2.1⟩ ⟨by omega, by omega⟩ hKA hw0 rfl rfl rfl rfl rfl (Nat.le_of_ble_eq_true rfl) ⟨nt_no (by decide), fun _ => (by show (0 : Int) < 45; decide), nt_no (by decide), nt_no (by decide), nt_no (by decide), nt_no (by decide), nt_no (by decide), nt_no (by decide), trivial⟩ trivial (s_L_text (GG X) μ0 hk4 hw0) (fun G1 r μ1 hp hx => ?_)
  obtain ⟨q1, q2, rfl, rfl, hS⟩ := hp
  have hF1 : ∀ o : Int, o < 45 → μ1 o = μ0 o := hS.2.2
  have hw1 := sx2_w (q1 := q1) (q2 := q2) (n := (txL (GG X) (lmy (GG X)).toNat).length) hw0 hS
  refine x_astore_n (ls' := [(3, 13), (2, 0), (2, 45), (9, 0), (9, 0), (9, 0), (9, 0), (9, 0)]) dL_law_12 rfl (Nat.le_of_ble_eq_true rfl) rfl (by omega) rfl ?_
  refine x_aload_nS dL_law_13 rfl rfl ?_
  refine x_callSP (as := [(3, 13)]) (rest := []) (k := 2) fL_law_14.g ⟨Nat.le_trans (Nat.le_of_ble_eq_true rfl) hRm.1, Nat.le_trans (Nat.le_of_ble_eq_true rfl) hRm.2.1⟩ ⟨by omega, by omega⟩ hKA hw1 rfl rfl rfl rfl rfl (Nat.le_of_ble_eq_true rfl) ⟨nt_no (by decide), trivial⟩ (by decide) (s_L_many (sx2 (GG X) q1 q2 (txL (GG X) (lmy (GG X)).toNat).length) μ1 (gk_x sx2_x hk4)) ?_
  refine Gx.topE ((lmy_x sx2_x).trans hM.symm) ?_
  refine x_istore_n (ls' := [(3, 13), (2, 0), (2, 45), (0, (((lmy (GG X)).toNat : Nat) : Int)), (9, 0), (9, 0), (9, 0), (9, 0)]) dL_law_17 rfl (Nat.le_of_ble_eq_true rfl) rfl rfl ?_
  generalize hm : (lmy (GG X)).toNat = m at *
  have hC1 : CJ μ1 20 := hC.cg (fun o h => hF1 o (by omega))
  have hls : lsok (((gS (sx2 (GG X) q1 q2 (txL (GG X) m).length)).length : Nat) : Int) [(3, 13), (2, 0), (2, 45), (0, (m : Int)), (9, 0), (9, 0), (9, 0), (9, 0)] := by
    rw [sx2_len]; exact ⟨nt_no (by decide), fun _ => (by show (0 : Int) < 47; decide), fun _ => (by show (45 : Int) < 47; decide), nt_no (by decide), nt_no (by decide), nt_no (by decide), nt_no (by decide), nt_no (by decide), trivial⟩
  refine x_aload_n dL_law_18 rfl rfl (by decide) ?_
  refine x_aload_n dL_law_19 rfl rfl (by decide) ?_
  refine x_callSX (as := [(2, 0), (2, 45)]) (rest := []) (k := 4) (mc := 3000) (ms := 300000) (P := ptP 20 (txL (GG X) m) μ1) fL_law_20.g ⟨Nat.le_trans (Nat.le_of_ble_eq_true rfl) hRm.1, Nat.le_trans (Nat.le_of_ble_eq_true rfl) hRm.2.1⟩ ⟨by omega, by omega⟩ hKA hw1 rfl rfl rfl rfl rfl (Nat.le_of_ble_eq_true rfl) hls trivial (s_L_put hw1 hC1 (by rw [hF1 42 (by decide)]; exact h42) (by rw [hF1 1 (by decide)]; exact h11) (by rw [hF1 2 (by decide)]; exact hbb) hS hLa ⟨hLl.1, by omega⟩) (fun G2 r μ2 hp hx2 => ?_)
  obtain ⟨rfl, p1, p2, p3, p4, p5⟩ := hp
  have hwX2 : wfm (GG X) μ2 := wf_cj Xt.rf ARR_GG p1 (by rw [p2 42 (by decide) (by decide) (by decide), hF1 42 (by decide)]; exact h42)
  have hS2 : SBw (GG X) μ2 μ2 (txL (GG X) m) := by
    refine ⟨⟨?_, ?_⟩, ?_, fun o _ => rfl⟩
    · show μ2 45 0 = _; rw [p2 45 (by decide) (by decide) (by decide)]; exact hS.1.1
    · show μ2 45 1 = _; rw [p2 45 (by decide) (by decide) (by decide)]; exact hS.1.2
    · show rwl (μ2 46) _; rw [p2 46 (by decide) (by decide) (by decide)]; exact hS.2.1
  have hw2 := sx2_w (q1 := q1) (q2 := q2) (n := (txL (GG X) m).length) hwX2 hS2
  refine Gx.cut hx2 hw2 hls trivial ?_
  have hst : STs (sx2 (GG X) q1 q2 (txL (GG X) m).length) μ2 45 46 (txL (GG X) m).length := by
    refine ⟨⟨sx2_s (Gb := GG X), sx2_r (Gb := GG X)⟩, ⟨hS2.1.1, hS2.1.2⟩, by omega, fun i i0 i1 => ?_⟩
    obtain ⟨j, rfl⟩ : ∃ j : Nat, i = j := ⟨i.toNat, by omega⟩
    have hr : μ2 ((46 : Nat) : Int) (j : Int) = (txL (GG X) m).getD j 0 := hS2.2.1 j (by omega)
    rw [hr]
    have := lgt_a (j := (j : Int)) hLa (by omega)
    exact this
  refine x_aload_n dL_law_23 rfl rfl (by decide) ?_
  refine x_aload_n dL_law_24 rfl rfl (by decide) ?_
  refine x_callWX (as := []) (rest := [(2, 0)]) (k := 0) (mc := 0) (ms := 0) fL_law_25 ⟨Nat.le_trans (Nat.le_of_ble_eq_true rfl) hRm.1, Nat.le_trans (Nat.le_of_ble_eq_true rfl) hRm.2.1⟩ ⟨by omega, by omega⟩ hKA hw2 rfl rfl hst.1.1 rfl rfl rfl rfl rfl (Nat.le_of_ble_eq_true rfl) hls ⟨fun _ => (by rw [sx2_len]; show (0 : Int) < 47; decide), trivial⟩ (s_len hst hw2) (fun G3 μ3 r hp hx3 => ?_)
  obtain ⟨rfl, rfl, rfl⟩ := hp
  have hlen : (txL (GG X) m).length = (lnsL (GG X) m).length := by rw [txL_lns]
  have hbm : bm (μ3 2) 0 (lnsL (GG X) m) := fun j hj => by rw [Int.zero_add, p4 j (by omega), txL_lns]
  have h07 : μ3 0 7 = 20 := p1.p7
  have h08 : μ3 0 8 = 31 := p1.p8
  refine x_callVI (o := 0) (ci := 7) (as := [(0, ((txL (GG X) m).length : Int))]) (rest := []) (k := 1) (Gs := GG X) fL_law_28.g ⟨Nat.le_trans (Nat.le_of_ble_eq_true rfl) hRm.1, Nat.le_trans (Nat.le_of_ble_eq_true rfl) hRm.2.1⟩ ⟨by omega, by omega⟩ hKA sx2_x hwX2 rfl rfl rfl rfl rfl rfl rfl rfl (Nat.le_of_ble_eq_true rfl) ⟨nt_no (by decide), trivial⟩ (by decide) (s_X7_textQ X 20 31 _ μ3 h07 h08 (Or.inr rfl) rfl ⟨by omega, p3.2⟩ p5 (by omega)) (fun z9 μ9 h9 => ?_) (fun z μ4 h4 => ?_)
  · obtain ⟨hF9, h9a, -, -, -, -, -, -, h9b⟩ := h9
    have hin : 0 ≤ ((txL (GG X) m).length : Int) ∧ ((txL (GG X) m).length : Int) ≤ μ3 1 1 := ⟨by omega, p3.1⟩
    obtain ⟨-, -, D, hGD, -⟩ := law_read (X := X) hM hbm (by rw [hlen]) (h9a.2 hin).2 (h9b hin)
    exact ⟨wf_gd Xt.rf ARR_GG hGD, fun o ho => hF9.at (by have h8 : (45 : Int) ≤ o := ho; omega) (by have h8 : (45 : Int) ≤ o := ho; omega)⟩
  obtain ⟨hF4, h4a, -, -, -, -, -, -, h4b⟩ := h4
  have hin : 0 ≤ ((txL (GG X) m).length : Int) ∧ ((txL (GG X) m).length : Int) ≤ μ3 1 1 := ⟨by omega, p3.1⟩
  obtain ⟨hz, h32, D, hGD, hDk, hDb, hDx⟩ := law_read (X := X) hM hbm (by rw [hlen]) (h4a.2 hin).2 (h4b hin)
  have hwX4 := wf_gd Xt.rf (ARR_GG (X := X)) hGD
  refine x_iconst dL_law_31 ?_
  refine x_iload_n dL_law_32 rfl rfl ?_
  refine x_iadd dL_law_33 ?_
  refine x_icmp_ne (tgt := 64) dL_law_34 rfl (R32.in (by omega)) (R32.in (by omega)) (fun q => absurd hz q) (fun _ => ?_)
  refine x_aload_n dL_law_37 rfl rfl (by decide) ?_
  refine x_iconst dL_law_38 ?_
  refine x_callVP (o := 0) (ci := 7) (as := [(0, 1)]) (rest := []) (k := 0) (Gs := GG X) fL_law_39.g ⟨Nat.le_trans (Nat.le_of_ble_eq_true rfl) hRm.1, Nat.le_trans (Nat.le_of_ble_eq_true rfl) hRm.2.1⟩ ⟨by omega, by omega⟩ hKA sx2_x hwX4 rfl rfl rfl rfl rfl rfl rfl rfl (Nat.le_of_ble_eq_true rfl) ⟨nt_no (by decide), trivial⟩ (by decide) (s_X7_count X 31 1 μ4 hGD.cj (by decide)) ?_
  refine Gx.topE (show cntC μ4 31 1 = (m : Int) from (by unfold cntC; rw [if_neg (by decide), if_pos rfl, hGD.sz])) ?_
  refine x_iload_n dL_law_42 rfl rfl ?_
  refine x_icmp_ne (tgt := 64) dL_law_43 rfl (R32.in (by omega)) (R32.in (by omega)) (fun q => absurd rfl q) (fun _ => ?_)
  refine x_aload_n dL_law_46 rfl rfl (by decide) ?_
  refine x_iconst dL_law_47 ?_
  refine x_callVP (o := 0) (ci := 7) (as := [(0, 3)]) (rest := []) (k := 0) (Gs := GG X) fL_law_48.g ⟨Nat.le_trans (Nat.le_of_ble_eq_true rfl) hRm.1, Nat.le_trans (Nat.le_of_ble_eq_true rfl) hRm.2.1⟩ ⟨by omega, by omega⟩ hKA sx2_x hwX4 rfl rfl rfl rfl rfl rfl rfl rfl (Nat.le_of_ble_eq_true rfl) ⟨nt_no (by decide), trivial⟩ (by decide) (s_X7_count X 31 3 μ4 hGD.cj (by decide)) ?_
  refine Gx.topE (show cntC μ4 31 3 = 1 from (by unfold cntC; rw [if_neg (by decide), if_neg (by decide), if_neg (by decide), if_pos rfl, hGD.g1])) ?_
  refine x_iload_n dL_law_51 rfl rfl ?_
  refine x_iconst dL_law_52 ?_
  refine x_icmp_le (tgt := 60) dL_law_53 rfl (R32.in (by omega)) (R32.in (by decide)) (fun q => absurd q (by omega)) (fun _ => ?_)
  refine x_iconst dL_law_56 ?_
  refine x_goto (tgt := 61) dL_law_57 rfl ?_
  refine x_icmp_eq (tgt := 66) dL_law_61 rfl (R32.in (by decide)) (R32.in (by decide)) (fun _ => ?_) (fun q => absurd rfl q)
  refine x_iload_n dL_law_66 rfl rfl ?_
  refine x_iconst dL_law_67 ?_
  refine x_icmp_ge (tgt := 97) dL_law_68 rfl (R32.in (by omega)) (R32.in (by decide)) (fun _ => ?_) (fun q => absurd q (by omega))
  refine Gx.fgl (ls' := [(3, 13), (2, 0), (9, 0), (0, (m : Int)), (9, 0), (9, 0), (9, 0), (9, 0)]) 2 rfl ?_
  refine Gx.cut (Gb := GG X) sx2_x hwX4 ⟨nt_no (by decide), fun _ => (by show (0 : Int) < 45; decide), nt_no (by decide), nt_no (by decide), nt_no (by decide), nt_no (by decide), nt_no (by decide), nt_no (by decide), trivial⟩ trivial ?_
  refine x_iload_n dL_law_97 rfl rfl ?_
  refine x_newaI (N := m) hKA ⟨by omega, by omega⟩ dL_law_98 k_97 rfl (by omega) hwX4 ⟨nt_no (by decide), fun _ => (by show (0 : Int) < 45; decide), nt_no (by decide), nt_no (by decide), nt_no (by decide), nt_no (by decide), nt_no (by decide), nt_no (by decide), trivial⟩ trivial (fun q => ?_)
  refine x_astore (ls' := [(3, 13), (2, 0), (9, 0), (0, (m : Int)), (2, 45), (9, 0), (9, 0), (9, 0)]) dL_law_100 (Nat.le_of_ble_eq_true rfl) rfl (by omega) rfl ?_
  refine x_iconst dL_law_102 ?_
  refine x_istore (ls' := [(3, 13), (2, 0), (9, 0), (0, (m : Int)), (2, 45), (0, ((0 : Nat) : Int)), (9, 0), (9, 0)]) dL_law_103 (Nat.le_of_ble_eq_true rfl) rfl rfl ?_
  have hs45 : (gS (ax (GG X) (20, m) q))[45]? = some (20, m) := ax_sh (G := GG X)
  have loop : ∀ (f i : Nat), m - i = f → i ≤ m → ∀ μ : Mu, (∀ j : Int, 0 ≤ j → j < (i : Int) → μ 45 j = lpl (GG X) j) → (∀ o : Int, o < 45 → μ o = μ4 o) → Gx K (ax (GG X) (20, m) q) M_L_law (cs + 500 + 3000 + 0 + 1) (ss + 400000 + 300000 + 0 + m) 105 [(3, 13), (2, 0), (9, 0), (0, (m : Int)), (2, 45), (0, (i : Int)), (9, 0), (9, 0)] [] μ := by
    intro f
    induction f with
    | zero =>
      intro i hf hi μ h1 h2
      refine x_iload dL_law_105 rfl ?_
      refine x_iload_n dL_law_107 rfl rfl ?_
      refine x_icmp_ge (tgt := 128) dL_law_108 rfl (R32.in (by omega)) (R32.in (by omega)) (fun _ => ?_) (fun q => absurd q (by omega))
      refine Gx.fgl (ls' := [(3, 13), (2, 0), (9, 0), (0, (m : Int)), (2, 45), (9, 0), (9, 0), (9, 0)]) 5 rfl ?_
      refine Gx.widen (cs2 := cs + 4000) (ss2 := ss + 800000) (by omega) (by omega) ?_
      exact KK m q μ D hM (hGD.cg (fun o h => h2 o (by omega))) hDk (fun j j0 j1 => (hDb j j0 j1).1) hDx (by rw [h2 3 (by decide)]; exact h32) (fun j j0 j1 => by rw [h1 j j0 (by omega), (hDb j j0 j1).2])
    | succ f ih =>
      intro i hf hi μ h1 h2
      have hG := hGD.cg (fun o h => h2 o (by omega))
      have hwm := wf_gd (Xt.ax (GG X) (20, m) q) ((ARR_GG (X := X)).ax (Nat.le_of_ble_eq_true rfl)) hG
      have hpl := lpl_r (GG X) i
      refine x_iload dL_law_105 rfl ?_
      refine x_iload_n dL_law_107 rfl rfl ?_
      refine x_icmp_ge (tgt := 128) dL_law_108 rfl (R32.in (by omega)) (R32.in (by omega)) (fun q => absurd q (by omega)) (fun _ => ?_)
      refine x_aload dL_law_111 rfl (by decide) ?_
      refine x_iload dL_law_113 rfl ?_
      refine x_aload_nS dL_law_115 rfl rfl ?_
      refine x_iload dL_law_116 rfl ?_
      refine x_callSP (as := [(3, 13), (0, (i : Int))]) (rest := [(0, (i : Int)), (2, 45)]) (k := 0) fL_law_118.g ⟨Nat.le_trans (Nat.le_of_ble_eq_true rfl) hRm.1, Nat.le_trans (Nat.le_of_ble_eq_true rfl) hRm.2.1⟩ ⟨by omega, by omega⟩ hKA hwm rfl rfl rfl rfl rfl (Nat.le_of_ble_eq_true rfl) ⟨nt_no (by decide), nt_no (by decide), trivial⟩ (by decide) (s_L_place (ax (GG X) (20, m) q) (i : Int) μ hk4 (by omega)) ?_
      refine Gx.topE (show lpl (ax (GG X) (20, m) q) (i : Int) = lpl (GG X) (i : Int) from rfl) ?_
      refine x_iast (o := 45) dL_law_121 rfl hs45 (by omega) (by omega) (by omega) ?_
      refine x_iinc (ls' := [(3, 13), (2, 0), (9, 0), (0, (m : Int)), (2, 45), (0, ((i + 1 : Nat) : Int)), (9, 0), (9, 0)]) dL_law_122 rfl (Nat.le_of_ble_eq_true rfl) rfl rfl ?_
      refine x_goto (tgt := 105) dL_law_125 rfl ?_
      refine ih (i + 1) (by omega) (by omega) _ (fun j j0 j1 => ?_) (fun o ho => by rw [am_up_o (by omega)]; exact h2 o ho)
      by_cases hj : j = (i : Int)
      · subst hj; rw [am_up_at]
      · rw [am_up_nk hj]; exact h1 j j0 (by omega)
  refine loop m 0 (by omega) (by omega) _ (fun j j0 j1 => absurd j1 (by omega)) (fun o ho => ?_)
  exact am_nw_o (show o ≠ ((gS (GG X)).length : Int) from fun h => by have h8 : o = 45 := h; omega)
end lawA
