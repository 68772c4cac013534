/-! ===== The law's isBest ===== -/
theorem rowJ.cg {D : GDt} {l r o : Int} {μ μ1 : Mu} (h : rowJ μ o D l r) (e : ∀ q : Int, o ≤ q ∧ q ≤ o → μ1 q = μ q) : rowJ μ1 o D l r := by
  have := e o (by omega)
  unfold rowJ at h ⊢
  rw [this]
  exact h
theorem rowJ_b {D : GDt} {l r o : Int} {μ : Mu} (hok : GOK D) (h : rowJ μ o D l r) (ha : alw D (r - l) l) (hlr : (-60 ≤ l ∧ l ≤ 60) ∧ (-60 ≤ r ∧ r ≤ 60) ∧ (-8 ≤ r - l ∧ r - l ≤ 8)) :
    ((0 ≤ μ o 0 ∧ μ o 0 ≤ 100000000) ∧ (0 ≤ μ o 1 ∧ μ o 1 ≤ 100000000)) ∧ ((0 ≤ μ o 2 ∧ μ o 2 ≤ 100000000) ∧ (-100000000 ≤ μ o 3 ∧ μ o 3 ≤ 100000000)) := by
  have h1 := stm_a hok ha
  have h2 := slp_f D (r - l) hlr.2.2
  have h3 := stf_f D (r - l) l hok
  have h4 := lns_r hok ha
  rw [h.1.1, h.1.2, h.2.1, h.2.2]
  omega

theorem s_L_isAheadJ49 (G : AG) (D : GDt) (l r l2 r2 : Int) (μ : Mu) (hok : GOK D) (hs49 : (gS G)[49]? = some (23, 4)) (hs48 : (gS G)[48]? = some (23, 4)) (hJ : rowJ μ 49 D l r) (hJ2 : rowJ μ 48 D l2 r2) (a1 : alw D (r - l) l) (a2 : alw D (r2 - l2) l2)
    (h1 : (-60 ≤ l ∧ l ≤ 60) ∧ (-60 ≤ r ∧ r ≤ 60) ∧ (-8 ≤ r - l ∧ r - l ≤ 8)) (h2 : (-60 ≤ l2 ∧ l2 ≤ 60) ∧ (-60 ≤ r2 ∧ r2 ≤ 60) ∧ (-8 ≤ r2 - l2 ∧ r2 - l2 ≤ 8)) :
    Wp G M_L_isAhead 0 [(2, 49), (0, l), (0, r), (2, 48), (0, l2), (0, r2), (0, way D 0), (9, 0), (9, 0), (9, 0), (9, 0)] [] μ (pP 0 (am_b (keyq D (l, r) < keyq D (l2, r2))) μ) := by
  refine (s_L_isAhead49 G l r l2 r2 (way D 0) μ hs49 hs48 (rowJ_b hok hJ a1 h1) (rowJ_b hok hJ2 a2 h2) ⟨h1.1, h1.2.1⟩ ⟨h2.1, h2.2.1⟩ (way_b D 0)).toP ?_
  rw [hJ.1.1, hJ.1.2, hJ.2.1, hJ.2.2, hJ2.1.1, hJ2.1.2, hJ2.2.1, hJ2.2.2]
  exact ah_key hok h1 a1 h2 a2

theorem s_L_isAheadJ50 (G : AG) (D : GDt) (l r l2 r2 : Int) (μ : Mu) (hok : GOK D) (hs50 : (gS G)[50]? = some (23, 4)) (hs49 : (gS G)[49]? = some (23, 4)) (hJ : rowJ μ 50 D l r) (hJ2 : rowJ μ 49 D l2 r2) (a1 : alw D (r - l) l) (a2 : alw D (r2 - l2) l2)
    (h1 : (-60 ≤ l ∧ l ≤ 60) ∧ (-60 ≤ r ∧ r ≤ 60) ∧ (-8 ≤ r - l ∧ r - l ≤ 8)) (h2 : (-60 ≤ l2 ∧ l2 ≤ 60) ∧ (-60 ≤ r2 ∧ r2 ≤ 60) ∧ (-8 ≤ r2 - l2 ∧ r2 - l2 ≤ 8)) :
    Wp G M_L_isAhead 0 [(2, 50), (0, l), (0, r), (2, 49), (0, l2), (0, r2), (0, way D 0), (9, 0), (9, 0), (9, 0), (9, 0)] [] μ (pP 0 (am_b (keyq D (l, r) < keyq D (l2, r2))) μ) := by
  refine (s_L_isAhead50 G l r l2 r2 (way D 0) μ hs50 hs49 (rowJ_b hok hJ a1 h1) (rowJ_b hok hJ2 a2 h2) ⟨h1.1, h1.2.1⟩ ⟨h2.1, h2.2.1⟩ (way_b D 0)).toP ?_
  rw [hJ.1.1, hJ.1.2, hJ.2.1, hJ.2.2, hJ2.1.1, hJ2.1.2, hJ2.2.1, hJ2.2.2]
  exact ah_key hok h1 a1 h2 a2

def ibP (G : AG) (μ : Mu) : AG → Option AV → Mu → Prop := fun G' r μ' => G' = G ∧ r = some (0, 1) ∧ ∀ o : Int, o ≤ 45 → ¬ (6 ≤ o ∧ o ≤ 19) → μ' o = μ o
theorem Fr.ib {a : Int} {μ2 μ1 μ : Mu} (h : Fr a 60 1 0 μ2 μ1) (ha : 46 ≤ a) (h0 : ∀ o : Int, o ≤ 45 → ¬ (6 ≤ o ∧ o ≤ 19) → μ1 o = μ o) : ∀ o : Int, o ≤ 45 → ¬ (6 ≤ o ∧ o ≤ 19) → μ2 o = μ o := fun o h1 h2 => (h.at (by omega) (by omega)).trans (h0 o h1 h2)
theorem seti {f : Int → Int} {μ : Mu} {o i v : Int} (h : ∀ j : Int, 0 ≤ j → j < i → μ o j = f j) (hv : v = f i) : ∀ j : Int, 0 ≤ j → j < i + 1 → (am_up μ o i v) o j = f j := by
  intro j h0 h1
  by_cases he : j = i
  · subst he; rw [am_up_at, hv]
  · rw [am_up_nk he]; exact h j h0 (by omega)

set_option maxRecDepth 100000 in
set_option maxHeartbeats 4000000 in
theorem s_L_isBest (G : AG) (X : AX) (p : Int) (D : GDt) (nn : Nat) (μ : Mu) (hlen46 : (gS G).length = 46) (hX46 : Xt (GG X) G) (hA46 : ARR G) (hs45 : (gS G)[45]? = some (20, nn)) (hD : GD μ p D nn) (hH : LH G D nn μ) (hbx : ∀ i : Int, 0 ≤ i → i < dN D → lkd G i = dB D i) (hxx : ∀ i : Int, 0 ≤ i → i + 1 < dN D → dX D (i + 1) = dX D i + lwd G (lkd G i)) : Gx (xK G M_L_isBest 30000 130000 (ibP G μ)) G M_L_isBest 0 0 0 [(2, 0), (3, 13), (2, 45), (9, 0), (9, 0), (9, 0), (9, 0), (9, 0), (9, 0), (9, 0), (9, 0), (9, 0), (9, 0), (9, 0), (9, 0), (9, 0), (9, 0), (9, 0)] [] μ := by
  have hok := hH.ok
  have hn := hok.n
  have hnn := hH.n_n
  have hk4 := hH.kn.2
  have hpp := hD.at
  refine x_aload_n dL_isBest_0 rfl rfl (by first | decide | omega) ?_
  refine x_alen (o := 45) (n := nn) (t := 0) (f := nn) dL_isBest_1 rfl hs45 (Nat.le_of_ble_eq_true rfl) rfl ?_
  refine Gx.topE (b := dN D) hnn.1 ?_
  refine x_istore_n (ls' := [(2, 0), (3, 13), (2, 45), (0, dN D), (9, 0), (9, 0), (9, 0), (9, 0), (9, 0), (9, 0), (9, 0), (9, 0), (9, 0), (9, 0), (9, 0), (9, 0), (9, 0), (9, 0)]) dL_isBest_2 rfl (Nat.le_of_ble_eq_true rfl) rfl rfl ?_
  refine x_iload_n dL_isBest_3 rfl rfl ?_
  refine x_newaI (N := nn) xK_A ⟨show 0 + 1 ≤ 30000 by omega, show 0 + nn ≤ 130000 by omega⟩ dL_isBest_4 k_97 (by omega) (by omega) (wf_gd hX46 hA46 (hD)) (by rw [hlen46]; exact ⟨fun _ => (by omega), ⟨nt_no (by decide), ⟨fun _ => (by omega), ⟨nt_no (by decide), ⟨nt_no (by decide), ⟨nt_no (by decide), ⟨nt_no (by decide), ⟨nt_no (by decide), ⟨nt_no (by decide), ⟨nt_no (by decide), ⟨nt_no (by decide), ⟨nt_no (by decide), ⟨nt_no (by decide), ⟨nt_no (by decide), ⟨nt_no (by decide), ⟨nt_no (by decide), ⟨nt_no (by decide), ⟨nt_no (by decide), trivial⟩⟩⟩⟩⟩⟩⟩⟩⟩⟩⟩⟩⟩⟩⟩⟩⟩⟩) (by rw [hlen46]; exact trivial) (fun q46 => ?_)
  rw [hlen46]
  refine Gx.cg (ls' := [(2, 0), (3, 13), (2, 45), (0, dN D), (9, 0), (9, 0), (9, 0), (9, 0), (9, 0), (9, 0), (9, 0), (9, 0), (9, 0), (9, 0), (9, 0), (9, 0), (9, 0), (9, 0)]) (st' := [(2, 46)]) (μ' := am_nw μ 46) ?_ rfl rfl rfl
  refine Gx.mu (fun μn46 hμn46 => ?_)
  have hFμn46 : Fr 46 46 1 0 μn46 μ := (by subst hμn46; exact fun o h1 h2 => am_nw_o (by omega))
  have hz46 : ∀ k : Int, μn46 46 k = 0 := (by subst hμn46; intro k; simp [am_nw])
  clear hμn46
  refine Gx.widen (cs2 := 1) (ss2 := 4 * (1) + 64) (by omega) (by omega) ?_
  have hlen47 : (gS (ax G (20, nn) q46)).length = 47 := (by rw [ax_len, hlen46])
  have hX47 : Xt (GG X) (ax G (20, nn) q46) := hX46.tr (Xt.ax G (20, nn) q46)
  have hA47 : ARR (ax G (20, nn) q46) := hA46.ax (Nat.le_of_ble_eq_true rfl)
  have hs45 := (Xt.ax G (20, nn) q46).sh hs45
  have hs46 : (gS (ax G (20, nn) q46))[46]? = some (20, nn) := (by have h9 := @ax_sh G (20, nn) q46; rw [hlen46] at h9; exact h9)
  refine x_astore (ls' := [(2, 0), (3, 13), (2, 45), (0, dN D), (2, 46), (9, 0), (9, 0), (9, 0), (9, 0), (9, 0), (9, 0), (9, 0), (9, 0), (9, 0), (9, 0), (9, 0), (9, 0), (9, 0)]) dL_isBest_6 (Nat.le_of_ble_eq_true rfl) rfl (by first | decide | omega) rfl ?_
  refine x_iconst dL_isBest_8 ?_
  refine x_istore (ls' := [(2, 0), (3, 13), (2, 45), (0, dN D), (2, 46), (0, 1), (9, 0), (9, 0), (9, 0), (9, 0), (9, 0), (9, 0), (9, 0), (9, 0), (9, 0), (9, 0), (9, 0), (9, 0)]) dL_isBest_9 (Nat.le_of_ble_eq_true rfl) rfl rfl ?_
  have hL11 : ∀ (n11 : Nat) (i : Int) (μ1 : Mu), (dN D - i).toNat = n11 → Fr 46 46 1 0 μ1 μ → (1 ≤ i ∧ i ≤ dN D) → (∀ j : Int, 0 ≤ j → j < i → μ1 46 j = dX D j) → Gx (xK G M_L_isBest 30000 130000 (ibP G μ)) (ax G (20, nn) q46) M_L_isBest 1 (4 * (1) + 64) 11 [(2, 0), (3, 13), (2, 45), (0, dN D), (2, 46), (0, i), (9, 0), (9, 0), (9, 0), (9, 0), (9, 0), (9, 0), (9, 0), (9, 0), (9, 0), (9, 0), (9, 0), (9, 0)] [] μ1 := by
    intro n11
    induction n11 using Nat.strongRecOn with
    | ind n11 ih11 =>
      intro i μ1 hn11 hF11 hi0 hx
      refine x_iload dL_isBest_11 rfl ?_
      refine x_iload_n dL_isBest_13 rfl rfl ?_
      refine x_icmp_ge (tgt := 48) dL_isBest_14 rfl (R32.in (by omega)) (R32.in (by omega)) (fun c14 => ?_) (fun c14 => ?_)
      · skip
        have hLD : LD G D nn μ1 := ⟨(LH.cg hH (fun o h1 => (hF11.at (by omega) (by omega)))), fun i9 h0 h1 => ⟨hx i9 h0 (by omega), hbx i9 h0 h1⟩⟩
        refine x_aload_nS dL_isBest_48 rfl rfl ?_
        refine x_aload_n dL_isBest_49 rfl rfl (by first | decide | omega) ?_
        refine x_callSX (as := [(3, 13), (2, 45)]) (rest := []) (k := 12) (mc := 1) (ms := 8) (P := (wayP D nn (ax G (20, nn) q46) μ1)) fL_isBest_50.g ⟨Nat.le_of_ble_eq_true rfl, Nat.le_of_ble_eq_true rfl⟩ ⟨show 1 + 1 ≤ 30000 by omega, show 4 * (1) + 64 + 8 ≤ 130000 by omega⟩ xK_A (wf_gd hX47 hA47 ((GD.cg hD (fun o h1 => (hF11.at (by omega) (by omega)))))) rfl rfl rfl rfl rfl (Nat.le_of_ble_eq_true rfl) (by rw [hlen47]; exact ⟨fun _ => (by omega), ⟨nt_no (by decide), ⟨fun _ => (by omega), ⟨nt_no (by decide), ⟨fun _ => (by omega), ⟨nt_no (by decide), ⟨nt_no (by decide), ⟨nt_no (by decide), ⟨nt_no (by decide), ⟨nt_no (by decide), ⟨nt_no (by decide), ⟨nt_no (by decide), ⟨nt_no (by decide), ⟨nt_no (by decide), ⟨nt_no (by decide), ⟨nt_no (by decide), ⟨nt_no (by decide), ⟨nt_no (by decide), trivial⟩⟩⟩⟩⟩⟩⟩⟩⟩⟩⟩⟩⟩⟩⟩⟩⟩⟩) (by rw [hlen47]; exact trivial) (s_L_ways (ax G (20, nn) q46) D nn μ1 hlen47 hs45 (wf_gd hX47 hA47 ((GD.cg hD (fun o h1 => (hF11.at (by omega) (by omega)))))) (LH.cg hH (fun o h1 => (hF11.at (by omega) (by omega))))) (fun G50 r50 μ50 hp50 hx50 => ?_)
        obtain ⟨q47, rfl, rfl, hv50, ho50⟩ := hp50
        refine Gx.cg (ls' := [(2, 0), (3, 13), (2, 45), (0, dN D), (2, 46), (0, i), (9, 0), (9, 0), (9, 0), (9, 0), (9, 0), (9, 0), (9, 0), (9, 0), (9, 0), (9, 0), (9, 0), (9, 0)]) (st' := [(2, 47)]) (μ' := μ50) ?_ rfl rfl rfl
        refine Gx.widen (cs2 := 2) (ss2 := 4 * (2) + 64) (by omega) (by omega) ?_
        have hF50 : Fr 47 47 1 0 μ50 μ1 := (fun o h1 h2 => ho50 o (by omega))
        have hW50 : LW D μ50 := hv50
        have hlen48 : (gS (ax (ax G (20, nn) q46) (20, nn) q47)).length = 48 := (by rw [ax_len, hlen47])
        have hX48 : Xt (GG X) (ax (ax G (20, nn) q46) (20, nn) q47) := hX47.tr (Xt.ax (ax G (20, nn) q46) (20, nn) q47)
        have hA48 : ARR (ax (ax G (20, nn) q46) (20, nn) q47) := hA47.ax (Nat.le_of_ble_eq_true rfl)
        have hs45 := (Xt.ax (ax G (20, nn) q46) (20, nn) q47).sh hs45
        have hs46 := (Xt.ax (ax G (20, nn) q46) (20, nn) q47).sh hs46
        have hs47 : (gS (ax (ax G (20, nn) q46) (20, nn) q47))[47]? = some (20, nn) := (by have h9 := @ax_sh (ax G (20, nn) q46) (20, nn) q47; rw [hlen47] at h9; exact h9)
        refine x_astore (ls' := [(2, 0), (3, 13), (2, 45), (0, dN D), (2, 46), (2, 47), (9, 0), (9, 0), (9, 0), (9, 0), (9, 0), (9, 0), (9, 0), (9, 0), (9, 0), (9, 0), (9, 0), (9, 0)]) dL_isBest_53 (Nat.le_of_ble_eq_true rfl) rfl (by first | decide | omega) rfl ?_
        refine x_iconst dL_isBest_55 ?_
        refine x_istore (ls' := [(2, 0), (3, 13), (2, 45), (0, dN D), (2, 46), (2, 47), (0, 0), (9, 0), (9, 0), (9, 0), (9, 0), (9, 0), (9, 0), (9, 0), (9, 0), (9, 0), (9, 0), (9, 0)]) dL_isBest_56 (Nat.le_of_ble_eq_true rfl) rfl rfl ?_
        refine x_iconst dL_isBest_58 ?_
        refine x_istore (ls' := [(2, 0), (3, 13), (2, 45), (0, dN D), (2, 46), (2, 47), (0, 0), (0, 0), (9, 0), (9, 0), (9, 0), (9, 0), (9, 0), (9, 0), (9, 0), (9, 0), (9, 0), (9, 0)]) dL_isBest_59 (Nat.le_of_ble_eq_true rfl) rfl rfl ?_
        refine x_iconst dL_isBest_61 ?_
        refine x_istore (ls' := [(2, 0), (3, 13), (2, 45), (0, dN D), (2, 46), (2, 47), (0, 0), (0, 0), (0, 0), (9, 0), (9, 0), (9, 0), (9, 0), (9, 0), (9, 0), (9, 0), (9, 0), (9, 0)]) dL_isBest_62 (Nat.le_of_ble_eq_true rfl) rfl rfl ?_
        refine x_null dL_isBest_64 ?_
        refine x_astoreN (ls' := [(2, 0), (3, 13), (2, 45), (0, dN D), (2, 46), (2, 47), (0, 0), (0, 0), (0, 0), (2, -1), (9, 0), (9, 0), (9, 0), (9, 0), (9, 0), (9, 0), (9, 0), (9, 0)]) dL_isBest_65 (Nat.le_of_ble_eq_true rfl) rfl rfl ?_
        refine x_bipush dL_isBest_67 (by decide) ?_
        refine x_istore (ls' := [(2, 0), (3, 13), (2, 45), (0, dN D), (2, 46), (2, 47), (0, 0), (0, 0), (0, 0), (2, -1), (0, -60), (9, 0), (9, 0), (9, 0), (9, 0), (9, 0), (9, 0), (9, 0)]) dL_isBest_69 (Nat.le_of_ble_eq_true rfl) rfl rfl ?_
        have hJ1 : ∀ nJ1 : Nat, (∀ (l : Int) (al : Int) (cc : Nat) (μa : Mu), ((61 - l) * 40 + 20).toNat = nJ1 → Fr 48 60 1 0 μa μ50 → (-60 ≤ l ∧ l ≤ 61) → (fnN (sN D l (-60)) al) → ((cc : Int) + ((61 - l) * 40 + 20) ≤ 5000) → Gx (xK G M_L_isBest 30000 130000 (ibP G μ)) (ax (ax G (20, nn) q46) (20, nn) q47) M_L_isBest cc (4 * (cc) + 64) 71 [(2, 0), (3, 13), (2, 45), (0, dN D), (2, 46), (2, 47), (0, 0), (0, 0), (0, al), (2, -1), (0, l), (9, 0), (9, 0), (9, 0), (9, 0), (9, 0), (9, 0), (9, 0)] [] μa) ∧ (∀ (l : Int) (r : Int) (al : Int) (cc : Nat) (μa : Mu), ((61 - l) * 40 + (9 - (r - l))).toNat = nJ1 → Fr 48 60 1 0 μa μ50 → (-60 ≤ l ∧ l ≤ 60) → ((-60 ≤ r ∧ r ≤ 61) ∧ (l - 8 ≤ r ∧ r ≤ l + 9)) → (fnN (sN D l r) al) → ((cc : Int) + ((61 - l) * 40 + (9 - (r - l))) ≤ 5000) → Gx (xK G M_L_isBest 30000 130000 (ibP G μ)) (ax (ax G (20, nn) q46) (20, nn) q47) M_L_isBest cc (4 * (cc) + 64) 90 [(2, 0), (3, 13), (2, 45), (0, dN D), (2, 46), (2, 47), (0, 0), (0, 0), (0, al), (2, -1), (0, l), (0, r), (9, 0), (9, 0), (9, 0), (9, 0), (9, 0), (9, 0)] [] μa) ∧ (∀ (l : Int) (al : Int) (bl : Int) (br : Int) (cc : Nat) (qb : Nat) (μa : Mu), ((61 - l) * 40 + 20).toNat = nJ1 → Fr 48 60 1 0 μa μ50 → (-60 ≤ l ∧ l ≤ 61) → (fnY D (sN D l (-60)) al bl br) → (rowJ μa 48 D bl br) → ((cc : Int) + ((61 - l) * 40 + 20) ≤ 5000) → Gx (xK G M_L_isBest 30000 130000 (ibP G μ)) (ax (ax (ax G (20, nn) q46) (20, nn) q47) (23, 4) qb) M_L_isBest cc (4 * (cc) + 64) 71 [(2, 0), (3, 13), (2, 45), (0, dN D), (2, 46), (2, 47), (0, bl), (0, br), (0, al), (2, 48), (0, l), (9, 0), (9, 0), (9, 0), (9, 0), (9, 0), (9, 0), (9, 0)] [] μa) ∧ (∀ (l : Int) (r : Int) (al : Int) (bl : Int) (br : Int) (cc : Nat) (qb : Nat) (μa : Mu), ((61 - l) * 40 + (9 - (r - l))).toNat = nJ1 → Fr 48 60 1 0 μa μ50 → (-60 ≤ l ∧ l ≤ 60) → ((-60 ≤ r ∧ r ≤ 61) ∧ (l - 8 ≤ r ∧ r ≤ l + 9)) → (fnY D (sN D l r) al bl br) → (rowJ μa 48 D bl br) → ((cc : Int) + ((61 - l) * 40 + (9 - (r - l))) ≤ 5000) → Gx (xK G M_L_isBest 30000 130000 (ibP G μ)) (ax (ax (ax G (20, nn) q46) (20, nn) q47) (23, 4) qb) M_L_isBest cc (4 * (cc) + 64) 90 [(2, 0), (3, 13), (2, 45), (0, dN D), (2, 46), (2, 47), (0, bl), (0, br), (0, al), (2, 48), (0, l), (0, r), (9, 0), (9, 0), (9, 0), (9, 0), (9, 0), (9, 0)] [] μa) := by
          intro nJ1
          induction nJ1 using Nat.strongRecOn with
          | ind nJ1 ihJ1 =>
            refine ⟨?_, ?_, ?_, ?_⟩
            · intro l al cc μa hnJ1 hFJ1 hl hN hcc
              refine x_iload dL_isBest_71 rfl ?_
              refine x_bipush dL_isBest_73 (by decide) ?_
              refine x_icmp_gt (tgt := 185) dL_isBest_75 rfl (R32.in (by omega)) (R32.in (by decide)) (fun c75 => ?_) (fun c75 => ?_)
              · skip
                have hE := fn_endN hok (a := al) (by rw [← sN_end, show (61 : Int) = l by omega]; exact hN)
                refine x_iconst dL_isBest_185 ?_
                refine x_istore (ls' := [(2, 0), (3, 13), (2, 45), (0, dN D), (2, 46), (2, 47), (0, 0), (0, 0), (0, al), (2, -1), (0, 0), (9, 0), (9, 0), (9, 0), (9, 0), (9, 0), (9, 0), (9, 0)]) dL_isBest_186 (Nat.le_of_ble_eq_true rfl) rfl rfl ?_
                have hL188 : ∀ (n188 : Nat) (i : Int) (μd : Mu), (dN D - i).toNat = n188 → Fr 6 19 1 0 μd μa → (0 ≤ i ∧ i ≤ dN D) → Gx (xK G M_L_isBest 30000 130000 (ibP G μ)) (ax (ax G (20, nn) q46) (20, nn) q47) M_L_isBest cc (4 * (cc) + 64) 188 [(2, 0), (3, 13), (2, 45), (0, dN D), (2, 46), (2, 47), (0, 0), (0, 0), (0, al), (2, -1), (0, i), (9, 0), (9, 0), (9, 0), (9, 0), (9, 0), (9, 0), (9, 0)] [] μd := by
                  intro n188
                  induction n188 using Nat.strongRecOn with
                  | ind n188 ih188 =>
                    intro i μd hn188 hF188 hi0
                    refine x_iload dL_isBest_188 rfl ?_
                    refine x_iload_n dL_isBest_190 rfl rfl ?_
                    refine x_icmp_ge (tgt := 229) dL_isBest_191 rfl (R32.in (by omega)) (R32.in (by omega)) (fun c191 => ?_) (fun c191 => ?_)
                    · skip
                      refine x_aload_n dL_isBest_229 rfl rfl (by first | decide | omega) ?_
                      refine x_iconst dL_isBest_230 ?_
                      refine x_iconst dL_isBest_231 ?_
                      refine x_callVI (o := 0) (ci := 7) (as := [(0, 0), (0, 2)]) (rest := []) (k := 0) (Gs := GG X) fL_isBest_232.g ⟨Nat.le_of_ble_eq_true rfl, Nat.le_of_ble_eq_true rfl⟩ ⟨show cc ≤ 30000 by omega, show 4 * (cc) + 64 ≤ 130000 by omega⟩ xK_A hX48 (wf_gd Xt.rf ARR_GG ((GD.cg hD (fun o h1 => ((hF188.at (by omega) (by omega)).trans ((hFJ1.at (by omega) (by omega)).trans ((hF50.at (by omega) (by omega)).trans (hF11.at (by omega) (by omega))))))))) rfl rfl rfl rfl rfl rfl rfl rfl (Nat.le_of_ble_eq_true rfl) ⟨nt_no (by decide), ⟨nt_no (by decide), trivial⟩⟩ (by decide) (q_group X p D nn 2 μd (GD.cg hD (fun o h1 => ((hF188.at (by omega) (by omega)).trans ((hFJ1.at (by omega) (by omega)).trans ((hF50.at (by omega) (by omega)).trans (hF11.at (by omega) (by omega))))))) (by first | omega | assumption)) (fun x9 μ9 h9 => ⟨wf_gd Xt.rf ARR_GG h9.2.1, fun o ho => h9.1.at (by have h8 : (45 : Int) ≤ o := ho; omega) (by have h8 : (45 : Int) ≤ o := ho; omega)⟩) (fun x1 μ_1 hμ1 => ?_)
                      obtain ⟨hF1, hD_1, hz_1⟩ := hμ1
                      have hg2 : x1 = am_b (¬ klow D = 99) := hz_1
                      refine x_aload dL_isBest_235 rfl (by first | decide | omega) ?_
                      refine x_callSP (as := [(2, 47)]) (rest := [(0, x1)]) (k := 4) fL_isBest_237.g ⟨Nat.le_of_ble_eq_true rfl, Nat.le_of_ble_eq_true rfl⟩ ⟨show cc ≤ 30000 by omega, show 4 * (cc) + 64 ≤ 130000 by omega⟩ xK_A (wf_gd hX48 hA48 (hD_1)) rfl rfl rfl rfl rfl (Nat.le_of_ble_eq_true rfl) ⟨fun _ => (by omega), trivial⟩ (by decide) (show Wp (ax (ax G (20, nn) q46) (20, nn) q47) M_L_isKneed 0 [(2, 47), (9, 0), (9, 0), (9, 0), (9, 0)] [] μ_1 (pP 0 (am_b (¬ klow D = 99)) μ_1) from (s_L_isKneedD (ax (ax G (20, nn) q46) (20, nn) q47) D nn μ_1 hs47 (by first | omega | assumption) hok (LW.cg hW50 (fun o h1 => ((hF1.at (by omega) (by omega)).trans ((hF188.at (by omega) (by omega)).trans (hFJ1.at (by omega) (by omega)))))))) ?_
                      refine x_if_eq (tgt := 247) dL_isBest_240 rfl (R32.in (by have := am_b_r ((¬ klow D = 99)); omega)) (fun c240 => ?_) (fun c240 => ?_)
                      · skip
                        replace c240 := am_b0 c240
                        refine x_iconst dL_isBest_247 ?_
                        refine x_icmp_ne (tgt := 277) dL_isBest_248 rfl (R32.in (by omega)) (R32.in (by decide)) (fun c248 => ?_) (fun c248 => ?_)
                        · skip
                          rw [hg2, am_b, if_neg c240] at c248; exact c248 rfl
                        · skip
                          refine x_aload_n dL_isBest_251 rfl rfl (by first | decide | omega) ?_
                          refine x_iconst dL_isBest_252 ?_
                          refine x_iconst dL_isBest_253 ?_
                          refine x_callVI (o := 0) (ci := 7) (as := [(0, 0), (0, 3)]) (rest := []) (k := 0) (Gs := GG X) fL_isBest_254.g ⟨Nat.le_of_ble_eq_true rfl, Nat.le_of_ble_eq_true rfl⟩ ⟨show cc ≤ 30000 by omega, show 4 * (cc) + 64 ≤ 130000 by omega⟩ xK_A hX48 (wf_gd Xt.rf ARR_GG (hD_1)) rfl rfl rfl rfl rfl rfl rfl rfl (Nat.le_of_ble_eq_true rfl) ⟨nt_no (by decide), ⟨nt_no (by decide), trivial⟩⟩ (by decide) (q_group X p D nn 3 μ_1 hD_1 (by first | omega | assumption)) (fun x9 μ9 h9 => ⟨wf_gd Xt.rf ARR_GG h9.2.1, fun o ho => h9.1.at (by have h8 : (45 : Int) ≤ o := ho; omega) (by have h8 : (45 : Int) ≤ o := ho; omega)⟩) (fun x2 μ_2 hμ2 => ?_)
                          obtain ⟨hF2, hD_2, hz_2⟩ := hμ2
                          have hg3 : x2 = dX D (dN D - 1) := hz_2
                          refine x_aload dL_isBest_257 rfl (by first | decide | omega) ?_
                          refine x_iload_n dL_isBest_259 rfl rfl ?_
                          refine x_iconst dL_isBest_260 ?_
                          refine x_isub dL_isBest_261 ?_
                          refine x_ialdx (o := 46) (n := nn) (x := dX D ((dN D) - 1)) dL_isBest_262 rfl hs46 (by omega) (by omega) ((congrFun (hF2.at (by omega) (by omega)) _).trans ((congrFun (hF1.at (by omega) (by omega)) _).trans ((congrFun (hF188.at (by omega) (by omega)) _).trans ((congrFun (hFJ1.at (by omega) (by omega)) _).trans ((congrFun (hF50.at (by omega) (by omega)) _).trans (hLD.x (by omega))))))) ?_
                          have hr3 := (hLD.ok).xs (i := ((dN D) - 1)) (by omega)
                          have hr4 := hok.xs (i := ((dN D) - 1)) (by omega)
                          refine x_icmp_ne (tgt := 277) dL_isBest_263 rfl (R32.in (by omega)) (R32.in (by omega)) (fun c263 => ?_) (fun c263 => ?_)
                          · skip
                            exact c263 hg3
                          · skip
                            refine x_aload_n dL_isBest_266 rfl rfl (by first | decide | omega) ?_
                            refine x_iconst dL_isBest_267 ?_
                            refine x_iconst dL_isBest_268 ?_
                            refine x_callVI (o := 0) (ci := 7) (as := [(0, 0), (0, 5)]) (rest := []) (k := 0) (Gs := GG X) fL_isBest_269.g ⟨Nat.le_of_ble_eq_true rfl, Nat.le_of_ble_eq_true rfl⟩ ⟨show cc ≤ 30000 by omega, show 4 * (cc) + 64 ≤ 130000 by omega⟩ xK_A hX48 (wf_gd Xt.rf ARR_GG (hD_2)) rfl rfl rfl rfl rfl rfl rfl rfl (Nat.le_of_ble_eq_true rfl) ⟨nt_no (by decide), ⟨nt_no (by decide), trivial⟩⟩ (by decide) (q_group X p D nn 5 μ_2 hD_2 (by first | omega | assumption)) (fun x9 μ9 h9 => ⟨wf_gd Xt.rf ARR_GG h9.2.1, fun o ho => h9.1.at (by have h8 : (45 : Int) ≤ o := ho; omega) (by have h8 : (45 : Int) ≤ o := ho; omega)⟩) (fun x5 μ_5 hμ5 => ?_)
                            obtain ⟨hF5, hD_5, hz_5⟩ := hμ5
                            have hg5 : x5 = cnD D := hz_5
                            have hg6 := hE.1
                            refine x_iload dL_isBest_272 rfl ?_
                            refine x_icmp_eq (tgt := 279) dL_isBest_274 rfl (R32.in (by omega)) (R32.in (by omega)) (fun c274 => ?_) (fun c274 => ?_)
                            · skip
                              refine x_aloadN dL_isBest_279 rfl ?_
                              refine x_ifnonnull_n dL_isBest_281 ?_
                              refine x_aload_n dL_isBest_284 rfl rfl (by first | decide | omega) ?_
                              refine x_iconst dL_isBest_285 ?_
                              refine x_iconst dL_isBest_286 ?_
                              refine x_callVI (o := 0) (ci := 7) (as := [(0, 0), (0, 0)]) (rest := []) (k := 0) (Gs := GG X) fL_isBest_287.g ⟨Nat.le_of_ble_eq_true rfl, Nat.le_of_ble_eq_true rfl⟩ ⟨show cc ≤ 30000 by omega, show 4 * (cc) + 64 ≤ 130000 by omega⟩ xK_A hX48 (wf_gd Xt.rf ARR_GG (hD_5)) rfl rfl rfl rfl rfl rfl rfl rfl (Nat.le_of_ble_eq_true rfl) ⟨nt_no (by decide), ⟨nt_no (by decide), trivial⟩⟩ (by decide) (q_best X p D nn 0 μ_5 hD_5 (by first | omega | assumption)) (fun x9 μ9 h9 => ⟨wf_gd Xt.rf ARR_GG h9.2.1, fun o ho => h9.1.at (by have h8 : (45 : Int) ≤ o := ho; omega) (by have h8 : (45 : Int) ≤ o := ho; omega)⟩) (fun x6 μ_6 hμ6 => ?_)
                              obtain ⟨hF6, hD_6, hz_6⟩ := hμ6
                              have hb9 : x6 = -1000000 := (by rw [hz_6]; exact if_pos hE.2.1)
                              refine x_ldc (n := -1000000) dL_isBest_290 k_1179 (by decide) ?_
                              refine x_icmp_ne (tgt := 308) dL_isBest_292 rfl (R32.in (by omega)) (R32.in (by decide)) (fun c292 => ?_) (fun c292 => ?_)
                              · skip
                                exact c292 hb9
                              · skip
                                refine x_aload_n dL_isBest_295 rfl rfl (by first | decide | omega) ?_
                                refine x_iconst dL_isBest_296 ?_
                                refine x_callVI (o := 0) (ci := 7) (as := [(0, 1)]) (rest := []) (k := 0) (Gs := GG X) fL_isBest_297.g ⟨Nat.le_of_ble_eq_true rfl, Nat.le_of_ble_eq_true rfl⟩ ⟨show cc ≤ 30000 by omega, show 4 * (cc) + 64 ≤ 130000 by omega⟩ xK_A hX48 (wf_gd Xt.rf ARR_GG (hD_6)) rfl rfl rfl rfl rfl rfl rfl rfl (Nat.le_of_ble_eq_true rfl) ⟨nt_no (by decide), trivial⟩ (by decide) (q_total X p D nn μ_6 hD_6) (fun x9 μ9 h9 => ⟨wf_gd Xt.rf ARR_GG h9.2.1, fun o ho => h9.1.at (by have h8 : (45 : Int) ≤ o := ho; omega) (by have h8 : (45 : Int) ≤ o := ho; omega)⟩) (fun x7 μ_7 hμ7 => ?_)
                                obtain ⟨hF7, hD_7, hz_7⟩ := hμ7
                                have ht9 : x7 = 1 := (by rw [hz_7]; exact if_pos hE.2.1)
                                refine x_iconst dL_isBest_300 ?_
                                refine x_icmp_ne (tgt := 308) dL_isBest_301 rfl (R32.in (by omega)) (R32.in (by decide)) (fun c301 => ?_) (fun c301 => ?_)
                                · skip
                                  exact c301 ht9
                                · skip
                                  refine x_iconst dL_isBest_304 ?_
                                  refine x_goto (tgt := 309) dL_isBest_305 rfl ?_
                                  have hfin : Fr 6 19 46 60 μ_7 μ := ((hF7.wd (by omega) (by omega)).tr ((hF6.wd (by omega) (by omega)).tr ((hF5.wd (by omega) (by omega)).tr ((hF2.wd (by omega) (by omega)).tr ((hF1.wd (by omega) (by omega)).tr ((hF188.wd (by omega) (by omega)).tr ((hFJ1.wd (by omega) (by omega)).tr ((hF50.wd (by omega) (by omega)).tr (hF11.wd (by omega) (by omega))))))))))
                                  refine Gx.loc (ls' := [(9, 0), (9, 0), (9, 0), (9, 0), (9, 0), (9, 0), (9, 0), (9, 0), (9, 0), (9, 0), (9, 0), (9, 0), (9, 0), (9, 0), (9, 0), (9, 0), (9, 0), (9, 0)]) (fun q9 hq9 => by simp [am_l] at hq9) ?_
                                  refine Gx.drop (wf_gd hX47 hA47 (hD_7)) (by rw [hlen47]; exact ⟨nt_no (by decide), ⟨nt_no (by decide), ⟨nt_no (by decide), ⟨nt_no (by decide), ⟨nt_no (by decide), ⟨nt_no (by decide), ⟨nt_no (by decide), ⟨nt_no (by decide), ⟨nt_no (by decide), ⟨nt_no (by decide), ⟨nt_no (by decide), ⟨nt_no (by decide), ⟨nt_no (by decide), ⟨nt_no (by decide), ⟨nt_no (by decide), ⟨nt_no (by decide), ⟨nt_no (by decide), ⟨nt_no (by decide), trivial⟩⟩⟩⟩⟩⟩⟩⟩⟩⟩⟩⟩⟩⟩⟩⟩⟩⟩) (by rw [hlen47]; exact ⟨nt_no (by decide), trivial⟩) ?_
                                  refine Gx.drop (wf_gd hX46 hA46 (hD_7)) (by rw [hlen46]; exact ⟨nt_no (by decide), ⟨nt_no (by decide), ⟨nt_no (by decide), ⟨nt_no (by decide), ⟨nt_no (by decide), ⟨nt_no (by decide), ⟨nt_no (by decide), ⟨nt_no (by decide), ⟨nt_no (by decide), ⟨nt_no (by decide), ⟨nt_no (by decide), ⟨nt_no (by decide), ⟨nt_no (by decide), ⟨nt_no (by decide), ⟨nt_no (by decide), ⟨nt_no (by decide), ⟨nt_no (by decide), ⟨nt_no (by decide), trivial⟩⟩⟩⟩⟩⟩⟩⟩⟩⟩⟩⟩⟩⟩⟩⟩⟩⟩) (by rw [hlen46]; exact ⟨nt_no (by decide), trivial⟩) ?_
                                  exact x_zretX dL_isBest_309 rfl (Or.inr rfl) ⟨by omega, by omega⟩ Xt.rf ⟨rfl, rfl, fun o h1 h2 => hfin.at (by omega) (by omega)⟩
                            · skip
                              omega
                      · skip
                        replace c240 := am_b1 c240
                        refine x_iconst dL_isBest_243 ?_
                        refine x_goto (tgt := 248) dL_isBest_244 rfl ?_
                        refine x_icmp_ne (tgt := 277) dL_isBest_248 rfl (R32.in (by omega)) (R32.in (by decide)) (fun c248 => ?_) (fun c248 => ?_)
                        · skip
                          rw [hg2, am_b, if_pos c240] at c248; exact c248 rfl
                        · skip
                          refine x_aload_n dL_isBest_251 rfl rfl (by first | decide | omega) ?_
                          refine x_iconst dL_isBest_252 ?_
                          refine x_iconst dL_isBest_253 ?_
                          refine x_callVI (o := 0) (ci := 7) (as := [(0, 0), (0, 3)]) (rest := []) (k := 0) (Gs := GG X) fL_isBest_254.g ⟨Nat.le_of_ble_eq_true rfl, Nat.le_of_ble_eq_true rfl⟩ ⟨show cc ≤ 30000 by omega, show 4 * (cc) + 64 ≤ 130000 by omega⟩ xK_A hX48 (wf_gd Xt.rf ARR_GG (hD_1)) rfl rfl rfl rfl rfl rfl rfl rfl (Nat.le_of_ble_eq_true rfl) ⟨nt_no (by decide), ⟨nt_no (by decide), trivial⟩⟩ (by decide) (q_group X p D nn 3 μ_1 hD_1 (by first | omega | assumption)) (fun x9 μ9 h9 => ⟨wf_gd Xt.rf ARR_GG h9.2.1, fun o ho => h9.1.at (by have h8 : (45 : Int) ≤ o := ho; omega) (by have h8 : (45 : Int) ≤ o := ho; omega)⟩) (fun x8 μ_8 hμ8 => ?_)
                          obtain ⟨hF8, hD_8, hz_8⟩ := hμ8
                          have hg3 : x8 = dX D (dN D - 1) := hz_8
                          refine x_aload dL_isBest_257 rfl (by first | decide | omega) ?_
                          refine x_iload_n dL_isBest_259 rfl rfl ?_
                          refine x_iconst dL_isBest_260 ?_
                          refine x_isub dL_isBest_261 ?_
                          refine x_ialdx (o := 46) (n := nn) (x := dX D ((dN D) - 1)) dL_isBest_262 rfl hs46 (by omega) (by omega) ((congrFun (hF8.at (by omega) (by omega)) _).trans ((congrFun (hF1.at (by omega) (by omega)) _).trans ((congrFun (hF188.at (by omega) (by omega)) _).trans ((congrFun (hFJ1.at (by omega) (by omega)) _).trans ((congrFun (hF50.at (by omega) (by omega)) _).trans (hLD.x (by omega))))))) ?_
                          have hr9 := (hLD.ok).xs (i := ((dN D) - 1)) (by omega)
                          have hr10 := hok.xs (i := ((dN D) - 1)) (by omega)
                          refine x_icmp_ne (tgt := 277) dL_isBest_263 rfl (R32.in (by omega)) (R32.in (by omega)) (fun c263 => ?_) (fun c263 => ?_)
                          · skip
                            exact c263 hg3
                          · skip
                            refine x_aload_n dL_isBest_266 rfl rfl (by first | decide | omega) ?_
                            refine x_iconst dL_isBest_267 ?_
                            refine x_iconst dL_isBest_268 ?_
                            refine x_callVI (o := 0) (ci := 7) (as := [(0, 0), (0, 5)]) (rest := []) (k := 0) (Gs := GG X) fL_isBest_269.g ⟨Nat.le_of_ble_eq_true rfl, Nat.le_of_ble_eq_true rfl⟩ ⟨show cc ≤ 30000 by omega, show 4 * (cc) + 64 ≤ 130000 by omega⟩ xK_A hX48 (wf_gd Xt.rf ARR_GG (hD_8)) rfl rfl rfl rfl rfl rfl rfl rfl (Nat.le_of_ble_eq_true rfl) ⟨nt_no (by decide), ⟨nt_no (by decide), trivial⟩⟩ (by decide) (q_group X p D nn 5 μ_8 hD_8 (by first | omega | assumption)) (fun x9 μ9 h9 => ⟨wf_gd Xt.rf ARR_GG h9.2.1, fun o ho => h9.1.at (by have h8 : (45 : Int) ≤ o := ho; omega) (by have h8 : (45 : Int) ≤ o := ho; omega)⟩) (fun x11 μ_11 hμ11 => ?_)
                            obtain ⟨hF11, hD_11, hz_11⟩ := hμ11
                            have hg5 : x11 = cnD D := hz_11
                            have hg6 := hE.1
                            refine x_iload dL_isBest_272 rfl ?_
                            refine x_icmp_eq (tgt := 279) dL_isBest_274 rfl (R32.in (by omega)) (R32.in (by omega)) (fun c274 => ?_) (fun c274 => ?_)
                            · skip
                              refine x_aloadN dL_isBest_279 rfl ?_
                              refine x_ifnonnull_n dL_isBest_281 ?_
                              refine x_aload_n dL_isBest_284 rfl rfl (by first | decide | omega) ?_
                              refine x_iconst dL_isBest_285 ?_
                              refine x_iconst dL_isBest_286 ?_
                              refine x_callVI (o := 0) (ci := 7) (as := [(0, 0), (0, 0)]) (rest := []) (k := 0) (Gs := GG X) fL_isBest_287.g ⟨Nat.le_of_ble_eq_true rfl, Nat.le_of_ble_eq_true rfl⟩ ⟨show cc ≤ 30000 by omega, show 4 * (cc) + 64 ≤ 130000 by omega⟩ xK_A hX48 (wf_gd Xt.rf ARR_GG (hD_11)) rfl rfl rfl rfl rfl rfl rfl rfl (Nat.le_of_ble_eq_true rfl) ⟨nt_no (by decide), ⟨nt_no (by decide), trivial⟩⟩ (by decide) (q_best X p D nn 0 μ_11 hD_11 (by first | omega | assumption)) (fun x9 μ9 h9 => ⟨wf_gd Xt.rf ARR_GG h9.2.1, fun o ho => h9.1.at (by have h8 : (45 : Int) ≤ o := ho; omega) (by have h8 : (45 : Int) ≤ o := ho; omega)⟩) (fun x12 μ_12 hμ12 => ?_)
                              obtain ⟨hF12, hD_12, hz_12⟩ := hμ12
                              have hb9 : x12 = -1000000 := (by rw [hz_12]; exact if_pos hE.2.1)
                              refine x_ldc (n := -1000000) dL_isBest_290 k_1179 (by decide) ?_
                              refine x_icmp_ne (tgt := 308) dL_isBest_292 rfl (R32.in (by omega)) (R32.in (by decide)) (fun c292 => ?_) (fun c292 => ?_)
                              · skip
                                exact c292 hb9
                              · skip
                                refine x_aload_n dL_isBest_295 rfl rfl (by first | decide | omega) ?_
                                refine x_iconst dL_isBest_296 ?_
                                refine x_callVI (o := 0) (ci := 7) (as := [(0, 1)]) (rest := []) (k := 0) (Gs := GG X) fL_isBest_297.g ⟨Nat.le_of_ble_eq_true rfl, Nat.le_of_ble_eq_true rfl⟩ ⟨show cc ≤ 30000 by omega, show 4 * (cc) + 64 ≤ 130000 by omega⟩ xK_A hX48 (wf_gd Xt.rf ARR_GG (hD_12)) rfl rfl rfl rfl rfl rfl rfl rfl (Nat.le_of_ble_eq_true rfl) ⟨nt_no (by decide), trivial⟩ (by decide) (q_total X p D nn μ_12 hD_12) (fun x9 μ9 h9 => ⟨wf_gd Xt.rf ARR_GG h9.2.1, fun o ho => h9.1.at (by have h8 : (45 : Int) ≤ o := ho; omega) (by have h8 : (45 : Int) ≤ o := ho; omega)⟩) (fun x13 μ_13 hμ13 => ?_)
                                obtain ⟨hF13, hD_13, hz_13⟩ := hμ13
                                have ht9 : x13 = 1 := (by rw [hz_13]; exact if_pos hE.2.1)
                                refine x_iconst dL_isBest_300 ?_
                                refine x_icmp_ne (tgt := 308) dL_isBest_301 rfl (R32.in (by omega)) (R32.in (by decide)) (fun c301 => ?_) (fun c301 => ?_)
                                · skip
                                  exact c301 ht9
                                · skip
                                  refine x_iconst dL_isBest_304 ?_
                                  refine x_goto (tgt := 309) dL_isBest_305 rfl ?_
                                  have hfin : Fr 6 19 46 60 μ_13 μ := ((hF13.wd (by omega) (by omega)).tr ((hF12.wd (by omega) (by omega)).tr ((hF11.wd (by omega) (by omega)).tr ((hF8.wd (by omega) (by omega)).tr ((hF1.wd (by omega) (by omega)).tr ((hF188.wd (by omega) (by omega)).tr ((hFJ1.wd (by omega) (by omega)).tr ((hF50.wd (by omega) (by omega)).tr (hF11.wd (by omega) (by omega))))))))))
                                  refine Gx.loc (ls' := [(9, 0), (9, 0), (9, 0), (9, 0), (9, 0), (9, 0), (9, 0), (9, 0), (9, 0), (9, 0), (9, 0), (9, 0), (9, 0), (9, 0), (9, 0), (9, 0), (9, 0), (9, 0)]) (fun q9 hq9 => by simp [am_l] at hq9) ?_
                                  refine Gx.drop (wf_gd hX47 hA47 (hD_13)) (by rw [hlen47]; exact ⟨nt_no (by decide), ⟨nt_no (by decide), ⟨nt_no (by decide), ⟨nt_no (by decide), ⟨nt_no (by decide), ⟨nt_no (by decide), ⟨nt_no (by decide), ⟨nt_no (by decide), ⟨nt_no (by decide), ⟨nt_no (by decide), ⟨nt_no (by decide), ⟨nt_no (by decide), ⟨nt_no (by decide), ⟨nt_no (by decide), ⟨nt_no (by decide), ⟨nt_no (by decide), ⟨nt_no (by decide), ⟨nt_no (by decide), trivial⟩⟩⟩⟩⟩⟩⟩⟩⟩⟩⟩⟩⟩⟩⟩⟩⟩⟩) (by rw [hlen47]; exact ⟨nt_no (by decide), trivial⟩) ?_
                                  refine Gx.drop (wf_gd hX46 hA46 (hD_13)) (by rw [hlen46]; exact ⟨nt_no (by decide), ⟨nt_no (by decide), ⟨nt_no (by decide), ⟨nt_no (by decide), ⟨nt_no (by decide), ⟨nt_no (by decide), ⟨nt_no (by decide), ⟨nt_no (by decide), ⟨nt_no (by decide), ⟨nt_no (by decide), ⟨nt_no (by decide), ⟨nt_no (by decide), ⟨nt_no (by decide), ⟨nt_no (by decide), ⟨nt_no (by decide), ⟨nt_no (by decide), ⟨nt_no (by decide), ⟨nt_no (by decide), trivial⟩⟩⟩⟩⟩⟩⟩⟩⟩⟩⟩⟩⟩⟩⟩⟩⟩⟩) (by rw [hlen46]; exact ⟨nt_no (by decide), trivial⟩) ?_
                                  exact x_zretX dL_isBest_309 rfl (Or.inr rfl) ⟨by omega, by omega⟩ Xt.rf ⟨rfl, rfl, fun o h1 h2 => hfin.at (by omega) (by omega)⟩
                            · skip
                              omega
                    · skip
                      refine x_aload_n dL_isBest_194 rfl rfl (by first | decide | omega) ?_
                      refine x_iload dL_isBest_195 rfl ?_
                      refine x_callVI (o := 0) (ci := 7) (as := [(0, i)]) (rest := []) (k := 0) (Gs := GG X) fL_isBest_197.g ⟨Nat.le_of_ble_eq_true rfl, Nat.le_of_ble_eq_true rfl⟩ ⟨show cc ≤ 30000 by omega, show 4 * (cc) + 64 ≤ 130000 by omega⟩ xK_A hX48 (wf_gd Xt.rf ARR_GG ((GD.cg hD (fun o h1 => ((hF188.at (by omega) (by omega)).trans ((hFJ1.at (by omega) (by omega)).trans ((hF50.at (by omega) (by omega)).trans (hF11.at (by omega) (by omega))))))))) rfl rfl rfl rfl rfl rfl rfl rfl (Nat.le_of_ble_eq_true rfl) ⟨nt_no (by decide), trivial⟩ (by decide) (q_direction X p D nn i μd (GD.cg hD (fun o h1 => ((hF188.at (by omega) (by omega)).trans ((hFJ1.at (by omega) (by omega)).trans ((hF50.at (by omega) (by omega)).trans (hF11.at (by omega) (by omega))))))) (by first | omega | assumption)) (fun x9 μ9 h9 => ⟨wf_gd Xt.rf ARR_GG h9.2.1, fun o ho => h9.1.at (by have h8 : (45 : Int) ≤ o := ho; omega) (by have h8 : (45 : Int) ≤ o := ho; omega)⟩) (fun x14 μ_14 hμ14 => ?_)
                      obtain ⟨hF14, hD_14, hz_14⟩ := hμ14
                      refine x_aload dL_isBest_200 rfl (by first | decide | omega) ?_
                      refine x_iload dL_isBest_202 rfl ?_
                      refine x_ialdx (o := 47) (n := nn) (x := way D i) dL_isBest_204 rfl hs47 (by omega) (by omega) ((congrFun (hF14.at (by omega) (by omega)) _).trans ((congrFun (hF188.at (by omega) (by omega)) _).trans ((congrFun (hFJ1.at (by omega) (by omega)) _).trans (hW50 _ (by omega) (by omega))))) ?_
                      have hr15 := way_b D i
                      refine x_icmp_ne (tgt := 221) dL_isBest_205 rfl (R32.in (by omega)) (R32.in (by omega)) (fun c205 => ?_) (fun c205 => ?_)
                      · skip
                        omega
                      · skip
                        refine x_aload_n dL_isBest_208 rfl rfl (by first | decide | omega) ?_
                        refine x_iload dL_isBest_209 rfl ?_
                        refine x_callVP (o := 0) (ci := 7) (as := [(0, i)]) (rest := []) (k := 0) (Gs := GG X) fL_isBest_211.g ⟨Nat.le_of_ble_eq_true rfl, Nat.le_of_ble_eq_true rfl⟩ ⟨show cc ≤ 30000 by omega, show 4 * (cc) + 64 ≤ 130000 by omega⟩ xK_A hX48 (wf_gd Xt.rf ARR_GG (hD_14)) rfl rfl rfl rfl rfl rfl rfl rfl (Nat.le_of_ble_eq_true rfl) ⟨nt_no (by decide), trivial⟩ (by decide) (q_position X p D nn i μ_14 hD_14 (by first | omega | assumption)) ?_
                        refine x_aload_n dL_isBest_214 rfl rfl (by first | decide | omega) ?_
                        refine x_iload dL_isBest_215 rfl ?_
                        refine x_ialdx (o := 45) (n := nn) (x := dH D i) dL_isBest_217 rfl hs45 (by omega) (by omega) ((congrFun (hF14.at (by omega) (by omega)) _).trans ((congrFun (hF188.at (by omega) (by omega)) _).trans ((congrFun (hFJ1.at (by omega) (by omega)) _).trans ((congrFun (hF50.at (by omega) (by omega)) _).trans (hLD.p (by omega)))))) ?_
                        have hr16 := (hLD.ok).hr (i := i) (by omega)
                        have hr17 := (hH.ok).hr (i := i) (by omega)
                        refine x_icmp_eq (tgt := 223) dL_isBest_218 rfl (R32.in (by omega)) (R32.in (by omega)) (fun c218 => ?_) (fun c218 => ?_)
                        · skip
                          refine x_iinc (ls' := [(2, 0), (3, 13), (2, 45), (0, dN D), (2, 46), (2, 47), (0, 0), (0, 0), (0, al), (2, -1), (0, i + 1), (9, 0), (9, 0), (9, 0), (9, 0), (9, 0), (9, 0), (9, 0)]) dL_isBest_223 rfl (Nat.le_of_ble_eq_true rfl) rfl rfl ?_
                          refine x_goto (tgt := 188) dL_isBest_226 rfl ?_
                          exact ih188 _ (by omega) (i + 1) μ_14 rfl ((hF14.wd (by omega) (by omega)).tr hF188) (by first | omega | assumption)
                        · skip
                          omega
                exact hL188 _ 0 μa rfl Fr.rf (by first | omega | assumption)
              · skip
                refine x_bipush dL_isBest_78 (by decide) ?_
                refine x_iload dL_isBest_80 rfl ?_
                refine x_bipush dL_isBest_82 (by decide) ?_
                refine x_isub dL_isBest_84 ?_
                refine x_max fL_isBest_85 (R32.in (by decide)) (R32.in (by omega)) (Nat.le_of_ble_eq_true rfl) ⟨Nat.le_of_ble_eq_true rfl, Nat.le_of_ble_eq_true rfl, show cc ≤ 30000 by omega, show 4 * (cc) + 64 ≤ 130000 by omega⟩ ?_
                refine x_istore (ls' := [(2, 0), (3, 13), (2, 45), (0, dN D), (2, 46), (2, 47), (0, 0), (0, 0), (0, al), (2, -1), (0, l), (0, max (-60) (l - 8)), (9, 0), (9, 0), (9, 0), (9, 0), (9, 0), (9, 0)]) dL_isBest_88 (Nat.le_of_ble_eq_true rfl) rfl rfl ?_
                exact (ihJ1 _ (by omega)).2.1 l (max (-60) (l - 8)) al cc μa rfl hFJ1 (by omega) (by omega) (by first | (rw [@sN_beg _ l (by omega)]; exact hN) | rw [@sN_n _ l (max (-60) (l - 8)) (by omega) (by omega) (fun q9 => hna115 ((alwB_iff (by omega)).mp q9.2))]; exact hN) (by omega)
            · intro l r al cc μa hnJ1 hFJ1 hl hr hN hcc
              refine x_iload dL_isBest_90 rfl ?_
              refine x_bipush dL_isBest_92 (by decide) ?_
              refine x_iload dL_isBest_94 rfl ?_
              refine x_bipush dL_isBest_96 (by decide) ?_
              refine x_iadd dL_isBest_98 ?_
              refine x_min fL_isBest_99 (R32.in (by decide)) (R32.in (by omega)) (Nat.le_of_ble_eq_true rfl) ⟨Nat.le_of_ble_eq_true rfl, Nat.le_of_ble_eq_true rfl, show cc ≤ 30000 by omega, show 4 * (cc) + 64 ≤ 130000 by omega⟩ ?_
              refine x_icmp_gt (tgt := 179) dL_isBest_102 rfl (R32.in (by omega)) (R32.in (by omega)) (fun c102 => ?_) (fun c102 => ?_)
              · skip
                refine x_iinc (ls' := [(2, 0), (3, 13), (2, 45), (0, dN D), (2, 46), (2, 47), (0, 0), (0, 0), (0, al), (2, -1), (0, l + 1), (0, r), (9, 0), (9, 0), (9, 0), (9, 0), (9, 0), (9, 0)]) dL_isBest_179 rfl (Nat.le_of_ble_eq_true rfl) rfl rfl ?_
                refine x_goto (tgt := 71) dL_isBest_182 rfl ?_
                refine Gx.fgl (ls' := [(2, 0), (3, 13), (2, 45), (0, dN D), (2, 46), (2, 47), (0, 0), (0, 0), (0, al), (2, -1), (0, l + 1), (9, 0), (9, 0), (9, 0), (9, 0), (9, 0), (9, 0), (9, 0)]) 11 rfl ?_
                exact (ihJ1 _ (by omega)).1 (l + 1) al cc μa rfl hFJ1 (by omega) (by rw [@sN_row _ (l + 1) r (by omega) (by omega) (by intro x h1 h2; omega)]; exact hN) (by omega)
              · skip
                refine x_aload_nS dL_isBest_105 rfl rfl ?_
                refine x_aload_n dL_isBest_106 rfl rfl (by first | decide | omega) ?_
                refine x_aload dL_isBest_107 rfl (by first | decide | omega) ?_
                refine x_aload dL_isBest_109 rfl (by first | decide | omega) ?_
                refine x_iload dL_isBest_111 rfl ?_
                refine x_iload dL_isBest_113 rfl ?_
                refine x_callSX (as := [(3, 13), (2, 45), (2, 47), (2, 46), (0, l), (0, r)]) (rest := []) (k := 19) (mc := 1) (ms := 4) (P := (judP D l r 48 (ax (ax G (20, nn) q46) (20, nn) q47) μa)) fL_isBest_115.g ⟨Nat.le_of_ble_eq_true rfl, Nat.le_of_ble_eq_true rfl⟩ ⟨show cc + 1 ≤ 30000 by omega, show 4 * (cc) + 64 + 4 ≤ 130000 by omega⟩ xK_A (wf_gd hX48 hA48 ((GD.cg hD (fun o h1 => ((hFJ1.at (by omega) (by omega)).trans ((hF50.at (by omega) (by omega)).trans (hF11.at (by omega) (by omega)))))))) rfl rfl rfl rfl rfl (Nat.le_of_ble_eq_true rfl) (by rw [hlen48]; exact ⟨fun _ => (by omega), ⟨nt_no (by decide), ⟨fun _ => (by omega), ⟨nt_no (by decide), ⟨fun _ => (by omega), ⟨fun _ => (by omega), ⟨nt_no (by decide), ⟨nt_no (by decide), ⟨nt_no (by decide), ⟨fun _ => (by omega), ⟨nt_no (by decide), ⟨nt_no (by decide), ⟨nt_no (by decide), ⟨nt_no (by decide), ⟨nt_no (by decide), ⟨nt_no (by decide), ⟨nt_no (by decide), ⟨nt_no (by decide), trivial⟩⟩⟩⟩⟩⟩⟩⟩⟩⟩⟩⟩⟩⟩⟩⟩⟩⟩) (by rw [hlen48]; exact trivial) (s_L_judged (ax (ax G (20, nn) q46) (20, nn) q47) D nn 48 l r μa hlen48 (by decide) hs45 hs46 hs47 (wf_gd hX48 hA48 ((GD.cg hD (fun o h1 => ((hFJ1.at (by omega) (by omega)).trans ((hF50.at (by omega) (by omega)).trans (hF11.at (by omega) (by omega)))))))) (LD.cg hLD (fun o h1 => ((hFJ1.at (by omega) (by omega)).trans (hF50.at (by omega) (by omega))))) (LW.cg hW50 (fun o h1 => (hFJ1.at (by omega) (by omega)))) (by omega)) (fun G115 r115 μ115 hp115 hx115 => ?_)
                rcases hp115 with ⟨hna115, rfl, rfl, rfl⟩ | ⟨hal115, q115, rfl, rfl, hv115, ho115⟩
                · skip
                  refine Gx.cg (ls' := [(2, 0), (3, 13), (2, 45), (0, dN D), (2, 46), (2, 47), (0, 0), (0, 0), (0, al), (2, -1), (0, l), (0, r), (9, 0), (9, 0), (9, 0), (9, 0), (9, 0), (9, 0)]) (st' := [(2, -1)]) (μ' := μa) ?_ rfl rfl rfl
                  refine Gx.widen (cs2 := cc + 1) (ss2 := 4 * (cc + 1) + 64) (by omega) (by omega) ?_
                  refine x_astoreN (ls' := [(2, 0), (3, 13), (2, 45), (0, dN D), (2, 46), (2, 47), (0, 0), (0, 0), (0, al), (2, -1), (0, l), (0, r), (2, -1), (9, 0), (9, 0), (9, 0), (9, 0), (9, 0)]) dL_isBest_118 (Nat.le_of_ble_eq_true rfl) rfl rfl ?_
                  refine x_aloadN dL_isBest_120 rfl ?_
                  refine x_ifnonnull_n dL_isBest_122 ?_
                  refine x_goto (tgt := 173) dL_isBest_125 rfl ?_
                  refine x_iinc (ls' := [(2, 0), (3, 13), (2, 45), (0, dN D), (2, 46), (2, 47), (0, 0), (0, 0), (0, al), (2, -1), (0, l), (0, r + 1), (2, -1), (9, 0), (9, 0), (9, 0), (9, 0), (9, 0)]) dL_isBest_173 rfl (Nat.le_of_ble_eq_true rfl) rfl rfl ?_
                  refine x_goto (tgt := 90) dL_isBest_176 rfl ?_
                  refine Gx.fgl (ls' := [(2, 0), (3, 13), (2, 45), (0, dN D), (2, 46), (2, 47), (0, 0), (0, 0), (0, al), (2, -1), (0, l), (0, r + 1), (9, 0), (9, 0), (9, 0), (9, 0), (9, 0), (9, 0)]) 12 rfl ?_
                  exact (ihJ1 _ (by omega)).2.1 l (r + 1) al (cc + 1) μa rfl hFJ1 (by omega) (by omega) (by first | (rw [@sN_beg _ l (by omega)]; exact hN) | rw [@sN_n _ l (r + 1) (by omega) (by omega) (fun q9 => hna115 ((alwB_iff (by omega)).mp q9.2))]; exact hN) (by omega)
                · skip
                  refine Gx.cg (ls' := [(2, 0), (3, 13), (2, 45), (0, dN D), (2, 46), (2, 47), (0, 0), (0, 0), (0, al), (2, -1), (0, l), (0, r), (9, 0), (9, 0), (9, 0), (9, 0), (9, 0), (9, 0)]) (st' := [(2, 48)]) (μ' := μ115) ?_ rfl rfl rfl
                  refine Gx.widen (cs2 := cc + 1) (ss2 := 4 * (cc + 1) + 64) (by omega) (by omega) ?_
                  have hF115 : Fr 48 48 1 0 μ115 μa := (fun o h1 h2 => ho115 o (by omega))
                  have hJ115 : rowJ μ115 48 D l r := hv115
                  have hlen49 : (gS (ax (ax (ax G (20, nn) q46) (20, nn) q47) (23, 4) q115)).length = 49 := (by rw [ax_len, hlen48])
                  have hX49 : Xt (GG X) (ax (ax (ax G (20, nn) q46) (20, nn) q47) (23, 4) q115) := hX48.tr (Xt.ax (ax (ax G (20, nn) q46) (20, nn) q47) (23, 4) q115)
                  have hA49 : ARR (ax (ax (ax G (20, nn) q46) (20, nn) q47) (23, 4) q115) := hA48.ax (Nat.le_of_ble_eq_true rfl)
                  have hs45 := (Xt.ax (ax (ax G (20, nn) q46) (20, nn) q47) (23, 4) q115).sh hs45
                  have hs46 := (Xt.ax (ax (ax G (20, nn) q46) (20, nn) q47) (23, 4) q115).sh hs46
                  have hs47 := (Xt.ax (ax (ax G (20, nn) q46) (20, nn) q47) (23, 4) q115).sh hs47
                  have hs48 : (gS (ax (ax (ax G (20, nn) q46) (20, nn) q47) (23, 4) q115))[48]? = some (23, 4) := (by have h9 := @ax_sh (ax (ax G (20, nn) q46) (20, nn) q47) (23, 4) q115; rw [hlen48] at h9; exact h9)
                  refine x_astore (ls' := [(2, 0), (3, 13), (2, 45), (0, dN D), (2, 46), (2, 47), (0, 0), (0, 0), (0, al), (2, -1), (0, l), (0, r), (2, 48), (9, 0), (9, 0), (9, 0), (9, 0), (9, 0)]) dL_isBest_118 (Nat.le_of_ble_eq_true rfl) rfl (by first | decide | omega) rfl ?_
                  refine x_aload dL_isBest_120 rfl (by first | decide | omega) ?_
                  refine x_ifnonnull_r (tgt := 128) dL_isBest_122 rfl (by omega) ?_
                  refine x_iinc (ls' := [(2, 0), (3, 13), (2, 45), (0, dN D), (2, 46), (2, 47), (0, 0), (0, 0), (0, al + 1), (2, -1), (0, l), (0, r), (2, 48), (9, 0), (9, 0), (9, 0), (9, 0), (9, 0)]) dL_isBest_128 rfl (Nat.le_of_ble_eq_true rfl) rfl rfl ?_
                  refine x_aloadN dL_isBest_131 rfl ?_
                  refine x_ifnull_n (tgt := 161) dL_isBest_133 rfl ?_
                  refine x_aload dL_isBest_161 rfl (by first | decide | omega) ?_
                  refine x_astore (ls' := [(2, 0), (3, 13), (2, 45), (0, dN D), (2, 46), (2, 47), (0, 0), (0, 0), (0, al + 1), (2, 48), (0, l), (0, r), (2, 48), (9, 0), (9, 0), (9, 0), (9, 0), (9, 0)]) dL_isBest_163 (Nat.le_of_ble_eq_true rfl) rfl (by first | decide | omega) rfl ?_
                  refine x_iload dL_isBest_165 rfl ?_
                  refine x_istore (ls' := [(2, 0), (3, 13), (2, 45), (0, dN D), (2, 46), (2, 47), (0, l), (0, 0), (0, al + 1), (2, 48), (0, l), (0, r), (2, 48), (9, 0), (9, 0), (9, 0), (9, 0), (9, 0)]) dL_isBest_167 (Nat.le_of_ble_eq_true rfl) rfl rfl ?_
                  refine x_iload dL_isBest_169 rfl ?_
                  refine x_istore (ls' := [(2, 0), (3, 13), (2, 45), (0, dN D), (2, 46), (2, 47), (0, l), (0, r), (0, al + 1), (2, 48), (0, l), (0, r), (2, 48), (9, 0), (9, 0), (9, 0), (9, 0), (9, 0)]) dL_isBest_171 (Nat.le_of_ble_eq_true rfl) rfl rfl ?_
                  refine x_iinc (ls' := [(2, 0), (3, 13), (2, 45), (0, dN D), (2, 46), (2, 47), (0, l), (0, r), (0, al + 1), (2, 48), (0, l), (0, r + 1), (2, 48), (9, 0), (9, 0), (9, 0), (9, 0), (9, 0)]) dL_isBest_173 rfl (Nat.le_of_ble_eq_true rfl) rfl rfl ?_
                  refine x_goto (tgt := 90) dL_isBest_176 rfl ?_
                  refine Gx.fgl (ls' := [(2, 0), (3, 13), (2, 45), (0, dN D), (2, 46), (2, 47), (0, l), (0, r), (0, al + 1), (2, 48), (0, l), (0, r + 1), (9, 0), (9, 0), (9, 0), (9, 0), (9, 0), (9, 0)]) 12 rfl ?_
                  exact (ihJ1 _ (by omega)).2.2.2 l (r + 1) (al + 1) l r (cc + 1) q115 μ115 rfl ((hF115.wd (by omega) (by omega)).tr hFJ1) (by omega) (by omega) (by first | (rw [@sN_beg _ l (by omega)]; exact hY) | rw [@sN_n _ l (r + 1) (by omega) (by omega) (fun q9 => hna115 ((alwB_iff (by omega)).mp q9.2))]; exact hY | rw [@sN_y _ l (r + 1) (by omega) (by omega) (by omega) ((alwB_iff (by omega)).mpr hal115)]; first | exact fn_1 hN | exact fn_b hY c155 | exact fn_n hY c155) hJ115 (by omega)
            · intro l al bl br cc qb μa hnJ1 hFJ1 hl hY hJb hcc
              have hlen49 : (gS (ax (ax (ax G (20, nn) q46) (20, nn) q47) (23, 4) qb)).length = 49 := (by rw [ax_len, hlen48])
              have hX49 : Xt (GG X) (ax (ax (ax G (20, nn) q46) (20, nn) q47) (23, 4) qb) := hX48.tr (Xt.ax (ax (ax G (20, nn) q46) (20, nn) q47) (23, 4) qb)
              have hA49 : ARR (ax (ax (ax G (20, nn) q46) (20, nn) q47) (23, 4) qb) := hA48.ax (Nat.le_of_ble_eq_true rfl)
              have hs45 := (Xt.ax (ax (ax G (20, nn) q46) (20, nn) q47) (23, 4) qb).sh hs45
              have hs46 := (Xt.ax (ax (ax G (20, nn) q46) (20, nn) q47) (23, 4) qb).sh hs46
              have hs47 := (Xt.ax (ax (ax G (20, nn) q46) (20, nn) q47) (23, 4) qb).sh hs47
              have hs48 : (gS (ax (ax (ax G (20, nn) q46) (20, nn) q47) (23, 4) qb))[48]? = some (23, 4) := (by have h9 := @ax_sh (ax (ax G (20, nn) q46) (20, nn) q47) (23, 4) qb; rw [hlen48] at h9; exact h9)
              have hB := sN_mem hok (by omega) (by omega) hY.2.1
              have hB2 : (-60 ≤ bl ∧ bl ≤ 60) ∧ (-60 ≤ br ∧ br ≤ 60) ∧ (-8 ≤ br - bl ∧ br - bl ≤ 8) := (by have h9 := hB.1; unfold inS inL at h9; simp only at h9; omega)
              have hB3 : alw D (br - bl) bl := hB.2
              refine x_iload dL_isBest_71 rfl ?_
              refine x_bipush dL_isBest_73 (by decide) ?_
              refine x_icmp_gt (tgt := 185) dL_isBest_75 rfl (R32.in (by omega)) (R32.in (by decide)) (fun c75 => ?_) (fun c75 => ?_)
              · skip
                have hE := fn_endY hok (a := al) (bl := bl) (br := br) (by rw [← sN_end, show (61 : Int) = l by omega]; exact hY)
                have hst := stm_a hok hB3
                have hsl := slp_f D (br - bl) hB2.2.2
                have hsf := stf_f D (br - bl) bl hok
                refine x_iconst dL_isBest_185 ?_
                refine x_istore (ls' := [(2, 0), (3, 13), (2, 45), (0, dN D), (2, 46), (2, 47), (0, bl), (0, br), (0, al), (2, 48), (0, 0), (9, 0), (9, 0), (9, 0), (9, 0), (9, 0), (9, 0), (9, 0)]) dL_isBest_186 (Nat.le_of_ble_eq_true rfl) rfl rfl ?_
                have hL188 : ∀ (n188 : Nat) (i : Int) (μd : Mu), (dN D - i).toNat = n188 → Fr 6 19 1 0 μd μa → (0 ≤ i ∧ i ≤ dN D) → Gx (xK G M_L_isBest 30000 130000 (ibP G μ)) (ax (ax (ax G (20, nn) q46) (20, nn) q47) (23, 4) qb) M_L_isBest cc (4 * (cc) + 64) 188 [(2, 0), (3, 13), (2, 45), (0, dN D), (2, 46), (2, 47), (0, bl), (0, br), (0, al), (2, 48), (0, i), (9, 0), (9, 0), (9, 0), (9, 0), (9, 0), (9, 0), (9, 0)] [] μd := by
                  intro n188
                  induction n188 using Nat.strongRecOn with
                  | ind n188 ih188 =>
                    intro i μd hn188 hF188 hi0
                    refine x_iload dL_isBest_188 rfl ?_
                    refine x_iload_n dL_isBest_190 rfl rfl ?_
                    refine x_icmp_ge (tgt := 229) dL_isBest_191 rfl (R32.in (by omega)) (R32.in (by omega)) (fun c191 => ?_) (fun c191 => ?_)
                    · skip
                      refine x_aload_n dL_isBest_229 rfl rfl (by first | decide | omega) ?_
                      refine x_iconst dL_isBest_230 ?_
                      refine x_iconst dL_isBest_231 ?_
                      refine x_callVI (o := 0) (ci := 7) (as := [(0, 0), (0, 2)]) (rest := []) (k := 0) (Gs := GG X) fL_isBest_232.g ⟨Nat.le_of_ble_eq_true rfl, Nat.le_of_ble_eq_true rfl⟩ ⟨show cc ≤ 30000 by omega, show 4 * (cc) + 64 ≤ 130000 by omega⟩ xK_A hX49 (wf_gd Xt.rf ARR_GG ((GD.cg hD (fun o h1 => ((hF188.at (by omega) (by omega)).trans ((hFJ1.at (by omega) (by omega)).trans ((hF50.at (by omega) (by omega)).trans (hF11.at (by omega) (by omega))))))))) rfl rfl rfl rfl rfl rfl rfl rfl (Nat.le_of_ble_eq_true rfl) ⟨nt_no (by decide), ⟨nt_no (by decide), trivial⟩⟩ (by decide) (q_group X p D nn 2 μd (GD.cg hD (fun o h1 => ((hF188.at (by omega) (by omega)).trans ((hFJ1.at (by omega) (by omega)).trans ((hF50.at (by omega) (by omega)).trans (hF11.at (by omega) (by omega))))))) (by first | omega | assumption)) (fun x9 μ9 h9 => ⟨wf_gd Xt.rf ARR_GG h9.2.1, fun o ho => h9.1.at (by have h8 : (45 : Int) ≤ o := ho; omega) (by have h8 : (45 : Int) ≤ o := ho; omega)⟩) (fun x18 μ_18 hμ18 => ?_)
                      obtain ⟨hF18, hD_18, hz_18⟩ := hμ18
                      have hg2 : x18 = am_b (¬ klow D = 99) := hz_18
                      refine x_aload dL_isBest_235 rfl (by first | decide | omega) ?_
                      refine x_callSP (as := [(2, 47)]) (rest := [(0, x18)]) (k := 4) fL_isBest_237.g ⟨Nat.le_of_ble_eq_true rfl, Nat.le_of_ble_eq_true rfl⟩ ⟨show cc ≤ 30000 by omega, show 4 * (cc) + 64 ≤ 130000 by omega⟩ xK_A (wf_gd hX49 hA49 (hD_18)) rfl rfl rfl rfl rfl (Nat.le_of_ble_eq_true rfl) ⟨fun _ => (by omega), trivial⟩ (by decide) (show Wp (ax (ax (ax G (20, nn) q46) (20, nn) q47) (23, 4) qb) M_L_isKneed 0 [(2, 47), (9, 0), (9, 0), (9, 0), (9, 0)] [] μ_18 (pP 0 (am_b (¬ klow D = 99)) μ_18) from (s_L_isKneedD (ax (ax (ax G (20, nn) q46) (20, nn) q47) (23, 4) qb) D nn μ_18 hs47 (by first | omega | assumption) hok (LW.cg hW50 (fun o h1 => ((hF18.at (by omega) (by omega)).trans ((hF188.at (by omega) (by omega)).trans (hFJ1.at (by omega) (by omega)))))))) ?_
                      refine x_if_eq (tgt := 247) dL_isBest_240 rfl (R32.in (by have := am_b_r ((¬ klow D = 99)); omega)) (fun c240 => ?_) (fun c240 => ?_)
                      · skip
                        replace c240 := am_b0 c240
                        refine x_iconst dL_isBest_247 ?_
                        refine x_icmp_ne (tgt := 277) dL_isBest_248 rfl (R32.in (by omega)) (R32.in (by decide)) (fun c248 => ?_) (fun c248 => ?_)
                        · skip
                          rw [hg2, am_b, if_neg c240] at c248; exact c248 rfl
                        · skip
                          refine x_aload_n dL_isBest_251 rfl rfl (by first | decide | omega) ?_
                          refine x_iconst dL_isBest_252 ?_
                          refine x_iconst dL_isBest_253 ?_
                          refine x_callVI (o := 0) (ci := 7) (as := [(0, 0), (0, 3)]) (rest := []) (k := 0) (Gs := GG X) fL_isBest_254.g ⟨Nat.le_of_ble_eq_true rfl, Nat.le_of_ble_eq_true rfl⟩ ⟨show cc ≤ 30000 by omega, show 4 * (cc) + 64 ≤ 130000 by omega⟩ xK_A hX49 (wf_gd Xt.rf ARR_GG (hD_18)) rfl rfl rfl rfl rfl rfl rfl rfl (Nat.le_of_ble_eq_true rfl) ⟨nt_no (by decide), ⟨nt_no (by decide), trivial⟩⟩ (by decide) (q_group X p D nn 3 μ_18 hD_18 (by first | omega | assumption)) (fun x9 μ9 h9 => ⟨wf_gd Xt.rf ARR_GG h9.2.1, fun o ho => h9.1.at (by have h8 : (45 : Int) ≤ o := ho; omega) (by have h8 : (45 : Int) ≤ o := ho; omega)⟩) (fun x19 μ_19 hμ19 => ?_)
                          obtain ⟨hF19, hD_19, hz_19⟩ := hμ19
                          have hg3 : x19 = dX D (dN D - 1) := hz_19
                          refine x_aload dL_isBest_257 rfl (by first | decide | omega) ?_
                          refine x_iload_n dL_isBest_259 rfl rfl ?_
                          refine x_iconst dL_isBest_260 ?_
                          refine x_isub dL_isBest_261 ?_
                          refine x_ialdx (o := 46) (n := nn) (x := dX D ((dN D) - 1)) dL_isBest_262 rfl hs46 (by omega) (by omega) ((congrFun (hF19.at (by omega) (by omega)) _).trans ((congrFun (hF18.at (by omega) (by omega)) _).trans ((congrFun (hF188.at (by omega) (by omega)) _).trans ((congrFun (hFJ1.at (by omega) (by omega)) _).trans ((congrFun (hF50.at (by omega) (by omega)) _).trans (hLD.x (by omega))))))) ?_
                          have hr20 := (hLD.ok).xs (i := ((dN D) - 1)) (by omega)
                          have hr21 := hok.xs (i := ((dN D) - 1)) (by omega)
                          refine x_icmp_ne (tgt := 277) dL_isBest_263 rfl (R32.in (by omega)) (R32.in (by omega)) (fun c263 => ?_) (fun c263 => ?_)
                          · skip
                            exact c263 hg3
                          · skip
                            refine x_aload_n dL_isBest_266 rfl rfl (by first | decide | omega) ?_
                            refine x_iconst dL_isBest_267 ?_
                            refine x_iconst dL_isBest_268 ?_
                            refine x_callVI (o := 0) (ci := 7) (as := [(0, 0), (0, 5)]) (rest := []) (k := 0) (Gs := GG X) fL_isBest_269.g ⟨Nat.le_of_ble_eq_true rfl, Nat.le_of_ble_eq_true rfl⟩ ⟨show cc ≤ 30000 by omega, show 4 * (cc) + 64 ≤ 130000 by omega⟩ xK_A hX49 (wf_gd Xt.rf ARR_GG (hD_19)) rfl rfl rfl rfl rfl rfl rfl rfl (Nat.le_of_ble_eq_true rfl) ⟨nt_no (by decide), ⟨nt_no (by decide), trivial⟩⟩ (by decide) (q_group X p D nn 5 μ_19 hD_19 (by first | omega | assumption)) (fun x9 μ9 h9 => ⟨wf_gd Xt.rf ARR_GG h9.2.1, fun o ho => h9.1.at (by have h8 : (45 : Int) ≤ o := ho; omega) (by have h8 : (45 : Int) ≤ o := ho; omega)⟩) (fun x22 μ_22 hμ22 => ?_)
                            obtain ⟨hF22, hD_22, hz_22⟩ := hμ22
                            have hg5 : x22 = cnD D := hz_22
                            have hg6 := hE.1
                            refine x_iload dL_isBest_272 rfl ?_
                            refine x_icmp_eq (tgt := 279) dL_isBest_274 rfl (R32.in (by omega)) (R32.in (by omega)) (fun c274 => ?_) (fun c274 => ?_)
                            · skip
                              refine x_aload dL_isBest_279 rfl (by first | decide | omega) ?_
                              refine x_ifnonnull_r (tgt := 310) dL_isBest_281 rfl (by omega) ?_
                              refine x_aload_n dL_isBest_310 rfl rfl (by first | decide | omega) ?_
                              refine x_iconst dL_isBest_311 ?_
                              refine x_iconst dL_isBest_312 ?_
                              refine x_callVI (o := 0) (ci := 7) (as := [(0, 0), (0, 0)]) (rest := []) (k := 0) (Gs := GG X) fL_isBest_313.g ⟨Nat.le_of_ble_eq_true rfl, Nat.le_of_ble_eq_true rfl⟩ ⟨show cc ≤ 30000 by omega, show 4 * (cc) + 64 ≤ 130000 by omega⟩ xK_A hX49 (wf_gd Xt.rf ARR_GG (hD_22)) rfl rfl rfl rfl rfl rfl rfl rfl (Nat.le_of_ble_eq_true rfl) ⟨nt_no (by decide), ⟨nt_no (by decide), trivial⟩⟩ (by decide) (q_best X p D nn 0 μ_22 hD_22 (by first | omega | assumption)) (fun x9 μ9 h9 => ⟨wf_gd Xt.rf ARR_GG h9.2.1, fun o ho => h9.1.at (by have h8 : (45 : Int) ≤ o := ho; omega) (by have h8 : (45 : Int) ≤ o := ho; omega)⟩) (fun x23 μ_23 hμ23 => ?_)
                              obtain ⟨hF23, hD_23, hz_23⟩ := hμ23
                              have hb0 : x23 = bl := (by rw [hz_23]; unfold ansB; rw [if_neg hE.2.1, hE.2.2.1, hE.2.2.2.1]; rw [← hE.2.2.1]; rfl)
                              refine x_iload dL_isBest_316 rfl ?_
                              refine x_icmp_ne (tgt := 402) dL_isBest_318 rfl (R32.in (by omega)) (R32.in (by omega)) (fun c318 => ?_) (fun c318 => ?_)
                              · skip
                                omega
                              · skip
                                refine x_aload_n dL_isBest_321 rfl rfl (by first | decide | omega) ?_
                                refine x_iconst dL_isBest_322 ?_
                                refine x_iconst dL_isBest_323 ?_
                                refine x_callVI (o := 0) (ci := 7) (as := [(0, 0), (0, 1)]) (rest := []) (k := 0) (Gs := GG X) fL_isBest_324.g ⟨Nat.le_of_ble_eq_true rfl, Nat.le_of_ble_eq_true rfl⟩ ⟨show cc ≤ 30000 by omega, show 4 * (cc) + 64 ≤ 130000 by omega⟩ xK_A hX49 (wf_gd Xt.rf ARR_GG (hD_23)) rfl rfl rfl rfl rfl rfl rfl rfl (Nat.le_of_ble_eq_true rfl) ⟨nt_no (by decide), ⟨nt_no (by decide), trivial⟩⟩ (by decide) (q_best X p D nn 1 μ_23 hD_23 (by first | omega | assumption)) (fun x9 μ9 h9 => ⟨wf_gd Xt.rf ARR_GG h9.2.1, fun o ho => h9.1.at (by have h8 : (45 : Int) ≤ o := ho; omega) (by have h8 : (45 : Int) ≤ o := ho; omega)⟩) (fun x24 μ_24 hμ24 => ?_)
                                obtain ⟨hF24, hD_24, hz_24⟩ := hμ24
                                have hb1 : x24 = br := (by rw [hz_24]; unfold ansB; rw [if_neg hE.2.1, hE.2.2.1, hE.2.2.2.1]; rw [← hE.2.2.1, ← hE.2.2.2.1]; show bl + (br - bl) = br; omega)
                                refine x_iload dL_isBest_327 rfl ?_
                                refine x_icmp_ne (tgt := 402) dL_isBest_329 rfl (R32.in (by omega)) (R32.in (by omega)) (fun c329 => ?_) (fun c329 => ?_)
                                · skip
                                  omega
                                · skip
                                  refine x_aload_n dL_isBest_332 rfl rfl (by first | decide | omega) ?_
                                  refine x_iconst dL_isBest_333 ?_
                                  refine x_iconst dL_isBest_334 ?_
                                  refine x_callVI (o := 0) (ci := 7) (as := [(0, 0), (0, 3)]) (rest := []) (k := 0) (Gs := GG X) fL_isBest_335.g ⟨Nat.le_of_ble_eq_true rfl, Nat.le_of_ble_eq_true rfl⟩ ⟨show cc ≤ 30000 by omega, show 4 * (cc) + 64 ≤ 130000 by omega⟩ xK_A hX49 (wf_gd Xt.rf ARR_GG (hD_24)) rfl rfl rfl rfl rfl rfl rfl rfl (Nat.le_of_ble_eq_true rfl) ⟨nt_no (by decide), ⟨nt_no (by decide), trivial⟩⟩ (by decide) (q_best X p D nn 3 μ_24 hD_24 (by first | omega | assumption)) (fun x9 μ9 h9 => ⟨wf_gd Xt.rf ARR_GG h9.2.1, fun o ho => h9.1.at (by have h8 : (45 : Int) ≤ o := ho; omega) (by have h8 : (45 : Int) ≤ o := ho; omega)⟩) (fun x25 μ_25 hμ25 => ?_)
                                  obtain ⟨hF25, hD_25, hz_25⟩ := hμ25
                                  have hb3 : x25 = stm D (br - bl) bl := (by rw [hz_25]; unfold ansB; rw [if_neg hE.2.1, hE.2.2.1, hE.2.2.2.1]; rw [← hE.2.2.1, ← hE.2.2.2.1]; rfl)
                                  refine x_i2l dL_isBest_338 (R32.in (by omega)) ?_
                                  refine x_aload dL_isBest_339 rfl (by first | decide | omega) ?_
                                  refine x_iconst dL_isBest_341 ?_
                                  refine x_laldx (o := 48) (n := 4) (x := stm D (br - bl) bl) dL_isBest_342 rfl hs48 (Nat.le_of_ble_eq_true rfl) (by omega) ((congrFun (hF25.at (by omega) (by omega)) _).trans ((congrFun (hF24.at (by omega) (by omega)) _).trans ((congrFun (hF23.at (by omega) (by omega)) _).trans ((congrFun (hF22.at (by omega) (by omega)) _).trans ((congrFun (hF19.at (by omega) (by omega)) _).trans ((congrFun (hF18.at (by omega) (by omega)) _).trans ((congrFun (hF188.at (by omega) (by omega)) _).trans hJb.1.1))))))) ?_
                                  refine x_lc_ne (tgt := 402) dL_isBest_343 dL_isBest_344 rfl (R64.in (by omega)) (R64.in (by omega)) (fun c344 => ?_) (fun c344 => ?_)
                                  · skip
                                    exact c344 hb3
                                  · skip
                                    refine x_aload_n dL_isBest_347 rfl rfl (by first | decide | omega) ?_
                                    refine x_iconst dL_isBest_348 ?_
                                    refine x_iconst dL_isBest_349 ?_
                                    refine x_callVI (o := 0) (ci := 7) (as := [(0, 0), (0, 4)]) (rest := []) (k := 0) (Gs := GG X) fL_isBest_350.g ⟨Nat.le_of_ble_eq_true rfl, Nat.le_of_ble_eq_true rfl⟩ ⟨show cc ≤ 30000 by omega, show 4 * (cc) + 64 ≤ 130000 by omega⟩ xK_A hX49 (wf_gd Xt.rf ARR_GG (hD_25)) rfl rfl rfl rfl rfl rfl rfl rfl (Nat.le_of_ble_eq_true rfl) ⟨nt_no (by decide), ⟨nt_no (by decide), trivial⟩⟩ (by decide) (q_best X p D nn 4 μ_25 hD_25 (by first | omega | assumption)) (fun x9 μ9 h9 => ⟨wf_gd Xt.rf ARR_GG h9.2.1, fun o ho => h9.1.at (by have h8 : (45 : Int) ≤ o := ho; omega) (by have h8 : (45 : Int) ≤ o := ho; omega)⟩) (fun x26 μ_26 hμ26 => ?_)
                                    obtain ⟨hF26, hD_26, hz_26⟩ := hμ26
                                    have hb4 : x26 = slp D (br - bl) := (by rw [hz_26]; unfold ansB; rw [if_neg hE.2.1, hE.2.2.1, hE.2.2.2.1]; rw [← hE.2.2.1, ← hE.2.2.2.1]; rfl)
                                    refine x_i2l dL_isBest_353 (R32.in (by omega)) ?_
                                    refine x_aload dL_isBest_354 rfl (by first | decide | omega) ?_
                                    refine x_iconst dL_isBest_356 ?_
                                    refine x_laldx (o := 48) (n := 4) (x := slp D (br - bl)) dL_isBest_357 rfl hs48 (Nat.le_of_ble_eq_true rfl) (by omega) ((congrFun (hF26.at (by omega) (by omega)) _).trans ((congrFun (hF25.at (by omega) (by omega)) _).trans ((congrFun (hF24.at (by omega) (by omega)) _).trans ((congrFun (hF23.at (by omega) (by omega)) _).trans ((congrFun (hF22.at (by omega) (by omega)) _).trans ((congrFun (hF19.at (by omega) (by omega)) _).trans ((congrFun (hF18.at (by omega) (by omega)) _).trans ((congrFun (hF188.at (by omega) (by omega)) _).trans hJb.1.2)))))))) ?_
                                    refine x_lc_ne (tgt := 402) dL_isBest_358 dL_isBest_359 rfl (R64.in (by omega)) (R64.in (by omega)) (fun c359 => ?_) (fun c359 => ?_)
                                    · skip
                                      exact c359 hb4
                                    · skip
                                      refine x_aload_n dL_isBest_362 rfl rfl (by first | decide | omega) ?_
                                      refine x_iconst dL_isBest_363 ?_
                                      refine x_iconst dL_isBest_364 ?_
                                      refine x_callVI (o := 0) (ci := 7) (as := [(0, 0), (0, 5)]) (rest := []) (k := 0) (Gs := GG X) fL_isBest_365.g ⟨Nat.le_of_ble_eq_true rfl, Nat.le_of_ble_eq_true rfl⟩ ⟨show cc ≤ 30000 by omega, show 4 * (cc) + 64 ≤ 130000 by omega⟩ xK_A hX49 (wf_gd Xt.rf ARR_GG (hD_26)) rfl rfl rfl rfl rfl rfl rfl rfl (Nat.le_of_ble_eq_true rfl) ⟨nt_no (by decide), ⟨nt_no (by decide), trivial⟩⟩ (by decide) (q_best X p D nn 5 μ_26 hD_26 (by first | omega | assumption)) (fun x9 μ9 h9 => ⟨wf_gd Xt.rf ARR_GG h9.2.1, fun o ho => h9.1.at (by have h8 : (45 : Int) ≤ o := ho; omega) (by have h8 : (45 : Int) ≤ o := ho; omega)⟩) (fun x27 μ_27 hμ27 => ?_)
                                      obtain ⟨hF27, hD_27, hz_27⟩ := hμ27
                                      have hb5 : x27 = stf D (br - bl) bl := (by rw [hz_27]; unfold ansB; rw [if_neg hE.2.1, hE.2.2.1, hE.2.2.2.1]; rw [← hE.2.2.1, ← hE.2.2.2.1]; rfl)
                                      refine x_i2l dL_isBest_368 (R32.in (by omega)) ?_
                                      refine x_aload dL_isBest_369 rfl (by first | decide | omega) ?_
                                      refine x_iconst dL_isBest_371 ?_
                                      refine x_laldx (o := 48) (n := 4) (x := stf D (br - bl) bl) dL_isBest_372 rfl hs48 (Nat.le_of_ble_eq_true rfl) (by omega) ((congrFun (hF27.at (by omega) (by omega)) _).trans ((congrFun (hF26.at (by omega) (by omega)) _).trans ((congrFun (hF25.at (by omega) (by omega)) _).trans ((congrFun (hF24.at (by omega) (by omega)) _).trans ((congrFun (hF23.at (by omega) (by omega)) _).trans ((congrFun (hF22.at (by omega) (by omega)) _).trans ((congrFun (hF19.at (by omega) (by omega)) _).trans ((congrFun (hF18.at (by omega) (by omega)) _).trans ((congrFun (hF188.at (by omega) (by omega)) _).trans hJb.2.1))))))))) ?_
                                      refine x_lc_ne (tgt := 402) dL_isBest_373 dL_isBest_374 rfl (R64.in (by omega)) (R64.in (by omega)) (fun c374 => ?_) (fun c374 => ?_)
                                      · skip
                                        exact c374 hb5
                                      · skip
                                        refine x_aload_n dL_isBest_377 rfl rfl (by first | decide | omega) ?_
                                        refine x_iconst dL_isBest_378 ?_
                                        refine x_iconst dL_isBest_379 ?_
                                        refine x_callVI (o := 0) (ci := 7) (as := [(0, 0), (0, 2)]) (rest := []) (k := 0) (Gs := GG X) fL_isBest_380.g ⟨Nat.le_of_ble_eq_true rfl, Nat.le_of_ble_eq_true rfl⟩ ⟨show cc ≤ 30000 by omega, show 4 * (cc) + 64 ≤ 130000 by omega⟩ xK_A hX49 (wf_gd Xt.rf ARR_GG (hD_27)) rfl rfl rfl rfl rfl rfl rfl rfl (Nat.le_of_ble_eq_true rfl) ⟨nt_no (by decide), ⟨nt_no (by decide), trivial⟩⟩ (by decide) (q_best X p D nn 2 μ_27 hD_27 (by first | omega | assumption)) (fun x9 μ9 h9 => ⟨wf_gd Xt.rf ARR_GG h9.2.1, fun o ho => h9.1.at (by have h8 : (45 : Int) ≤ o := ho; omega) (by have h8 : (45 : Int) ≤ o := ho; omega)⟩) (fun x28 μ_28 hμ28 => ?_)
                                        obtain ⟨hF28, hD_28, hz_28⟩ := hμ28
                                        have hb2 : x28 = stm D (br - bl) bl + slp D (br - bl) + stf D (br - bl) bl := (by rw [hz_28]; unfold ansB; rw [if_neg hE.2.1, hE.2.2.1, hE.2.2.2.1]; rw [← hE.2.2.1, ← hE.2.2.2.1]; rfl)
                                        refine x_i2l dL_isBest_383 (R32.in (by omega)) ?_
                                        refine x_aload dL_isBest_384 rfl (by first | decide | omega) ?_
                                        refine x_iconst dL_isBest_386 ?_
                                        refine x_laldx (o := 48) (n := 4) (x := stm D (br - bl) bl) dL_isBest_387 rfl hs48 (Nat.le_of_ble_eq_true rfl) (by omega) ((congrFun (hF28.at (by omega) (by omega)) _).trans ((congrFun (hF27.at (by omega) (by omega)) _).trans ((congrFun (hF26.at (by omega) (by omega)) _).trans ((congrFun (hF25.at (by omega) (by omega)) _).trans ((congrFun (hF24.at (by omega) (by omega)) _).trans ((congrFun (hF23.at (by omega) (by omega)) _).trans ((congrFun (hF22.at (by omega) (by omega)) _).trans ((congrFun (hF19.at (by omega) (by omega)) _).trans ((congrFun (hF18.at (by omega) (by omega)) _).trans ((congrFun (hF188.at (by omega) (by omega)) _).trans hJb.1.1)))))))))) ?_
                                        refine x_aload dL_isBest_388 rfl (by first | decide | omega) ?_
                                        refine x_iconst dL_isBest_390 ?_
                                        refine x_laldx (o := 48) (n := 4) (x := slp D (br - bl)) dL_isBest_391 rfl hs48 (Nat.le_of_ble_eq_true rfl) (by omega) ((congrFun (hF28.at (by omega) (by omega)) _).trans ((congrFun (hF27.at (by omega) (by omega)) _).trans ((congrFun (hF26.at (by omega) (by omega)) _).trans ((congrFun (hF25.at (by omega) (by omega)) _).trans ((congrFun (hF24.at (by omega) (by omega)) _).trans ((congrFun (hF23.at (by omega) (by omega)) _).trans ((congrFun (hF22.at (by omega) (by omega)) _).trans ((congrFun (hF19.at (by omega) (by omega)) _).trans ((congrFun (hF18.at (by omega) (by omega)) _).trans ((congrFun (hF188.at (by omega) (by omega)) _).trans hJb.1.2)))))))))) ?_
                                        refine x_ladd dL_isBest_392 ?_
                                        refine x_aload dL_isBest_393 rfl (by first | decide | omega) ?_
                                        refine x_iconst dL_isBest_395 ?_
                                        refine x_laldx (o := 48) (n := 4) (x := stf D (br - bl) bl) dL_isBest_396 rfl hs48 (Nat.le_of_ble_eq_true rfl) (by omega) ((congrFun (hF28.at (by omega) (by omega)) _).trans ((congrFun (hF27.at (by omega) (by omega)) _).trans ((congrFun (hF26.at (by omega) (by omega)) _).trans ((congrFun (hF25.at (by omega) (by omega)) _).trans ((congrFun (hF24.at (by omega) (by omega)) _).trans ((congrFun (hF23.at (by omega) (by omega)) _).trans ((congrFun (hF22.at (by omega) (by omega)) _).trans ((congrFun (hF19.at (by omega) (by omega)) _).trans ((congrFun (hF18.at (by omega) (by omega)) _).trans ((congrFun (hF188.at (by omega) (by omega)) _).trans hJb.2.1)))))))))) ?_
                                        refine x_ladd dL_isBest_397 ?_
                                        refine x_lc_eq (tgt := 404) dL_isBest_398 dL_isBest_399 rfl (R64.in (by omega)) (R64.in (by omega)) (fun c399 => ?_) (fun c399 => ?_)
                                        · skip
                                          refine x_iconst dL_isBest_404 ?_
                                          refine x_istore (ls' := [(2, 0), (3, 13), (2, 45), (0, dN D), (2, 46), (2, 47), (0, bl), (0, br), (0, al), (2, 48), (0, 0), (9, 0), (9, 0), (9, 0), (9, 0), (9, 0), (9, 0), (9, 0)]) dL_isBest_405 (Nat.le_of_ble_eq_true rfl) rfl rfl ?_
                                          have hL407 : ∀ (n407 : Nat) (st : Int) (cs9 : Nat) (μs : Mu), (4 - st).toNat = n407 → Fr 6 19 49 60 μs μa → (0 ≤ st ∧ st ≤ 4) → ((cs9 : Int) ≤ 5000 + 5000 * st) → Gx (xK G M_L_isBest 30000 130000 (ibP G μ)) (ax (ax (ax G (20, nn) q46) (20, nn) q47) (23, 4) qb) M_L_isBest cs9 (4 * cs9 + 64) 407 [(2, 0), (3, 13), (2, 45), (0, dN D), (2, 46), (2, 47), (0, bl), (0, br), (0, al), (2, 48), (0, st), (9, 0), (9, 0), (9, 0), (9, 0), (9, 0), (9, 0), (9, 0)] [] μs := by
                                            intro n407
                                            induction n407 using Nat.strongRecOn with
                                            | ind n407 ih407 =>
                                              intro st cs9 μs hn407 hF407 hs0 hcs
                                              refine x_iload dL_isBest_407 rfl ?_
                                              refine x_iconst dL_isBest_409 ?_
                                              refine x_icmp_ge (tgt := 726) dL_isBest_410 rfl (R32.in (by omega)) (R32.in (by decide)) (fun c410 => ?_) (fun c410 => ?_)
                                              · skip
                                                refine x_aload_n dL_isBest_726 rfl rfl (by first | decide | omega) ?_
                                                refine x_iconst dL_isBest_727 ?_
                                                refine x_iload dL_isBest_728 rfl ?_
                                                refine x_iconst dL_isBest_730 ?_
                                                refine x_callVI (o := 0) (ci := 7) (as := [(0, 0), (0, al), (0, 0)]) (rest := []) (k := 0) (Gs := GG X) fL_isBest_731.g ⟨Nat.le_of_ble_eq_true rfl, Nat.le_of_ble_eq_true rfl⟩ ⟨show cs9 ≤ 30000 by omega, show 4 * cs9 + 64 ≤ 130000 by omega⟩ xK_A hX49 (wf_gd Xt.rf ARR_GG ((GD.cg hD (fun o h1 => ((hF407.at (by omega) (by omega)).trans ((hFJ1.at (by omega) (by omega)).trans ((hF50.at (by omega) (by omega)).trans (hF11.at (by omega) (by omega))))))))) rfl rfl rfl rfl rfl rfl rfl rfl (Nat.le_of_ble_eq_true rfl) ⟨nt_no (by decide), ⟨nt_no (by decide), ⟨nt_no (by decide), trivial⟩⟩⟩ (by decide) (q_ranked X p D nn al 0 μs (GD.cg hD (fun o h1 => ((hF407.at (by omega) (by omega)).trans ((hFJ1.at (by omega) (by omega)).trans ((hF50.at (by omega) (by omega)).trans (hF11.at (by omega) (by omega))))))) (by first | omega | assumption) (by first | omega | assumption)) (fun x9 μ9 h9 => ⟨wf_gd Xt.rf ARR_GG h9.2.1, fun o ho => h9.1.at (by have h8 : (45 : Int) ≤ o := ho; omega) (by have h8 : (45 : Int) ≤ o := ho; omega)⟩) (fun x29 μ_29 hμ29 => ?_)
                                                obtain ⟨hF29, hD_29, hz_29⟩ := hμ29
                                                have hu4 : x29 = -1000000 := rnk_out (by omega) hz_29
                                                refine x_ldc (n := -1000000) dL_isBest_734 k_1179 (by decide) ?_
                                                refine x_icmp_ne (tgt := 743) dL_isBest_736 rfl (R32.in (by omega)) (R32.in (by decide)) (fun c736 => ?_) (fun c736 => ?_)
                                                · skip
                                                  exact c736 hu4
                                                · skip
                                                  refine x_iconst dL_isBest_739 ?_
                                                  refine x_goto (tgt := 744) dL_isBest_740 rfl ?_
                                                  have hfin : Fr 6 19 46 60 μ_29 μ := ((hF29.wd (by omega) (by omega)).tr ((hF407.wd (by omega) (by omega)).tr ((hFJ1.wd (by omega) (by omega)).tr ((hF50.wd (by omega) (by omega)).tr (hF11.wd (by omega) (by omega))))))
                                                  refine Gx.loc (ls' := [(9, 0), (9, 0), (9, 0), (9, 0), (9, 0), (9, 0), (9, 0), (9, 0), (9, 0), (9, 0), (9, 0), (9, 0), (9, 0), (9, 0), (9, 0), (9, 0), (9, 0), (9, 0)]) (fun q9 hq9 => by simp [am_l] at hq9) ?_
                                                  refine Gx.drop (wf_gd hX48 hA48 (hD_29)) (by rw [hlen48]; exact ⟨nt_no (by decide), ⟨nt_no (by decide), ⟨nt_no (by decide), ⟨nt_no (by decide), ⟨nt_no (by decide), ⟨nt_no (by decide), ⟨nt_no (by decide), ⟨nt_no (by decide), ⟨nt_no (by decide), ⟨nt_no (by decide), ⟨nt_no (by decide), ⟨nt_no (by decide), ⟨nt_no (by decide), ⟨nt_no (by decide), ⟨nt_no (by decide), ⟨nt_no (by decide), ⟨nt_no (by decide), ⟨nt_no (by decide), trivial⟩⟩⟩⟩⟩⟩⟩⟩⟩⟩⟩⟩⟩⟩⟩⟩⟩⟩) (by rw [hlen48]; exact ⟨nt_no (by decide), trivial⟩) ?_
                                                  refine Gx.drop (wf_gd hX47 hA47 (hD_29)) (by rw [hlen47]; exact ⟨nt_no (by decide), ⟨nt_no (by decide), ⟨nt_no (by decide), ⟨nt_no (by decide), ⟨nt_no (by decide), ⟨nt_no (by decide), ⟨nt_no (by decide), ⟨nt_no (by decide), ⟨nt_no (by decide), ⟨nt_no (by decide), ⟨nt_no (by decide), ⟨nt_no (by decide), ⟨nt_no (by decide), ⟨nt_no (by decide), ⟨nt_no (by decide), ⟨nt_no (by decide), ⟨nt_no (by decide), ⟨nt_no (by decide), trivial⟩⟩⟩⟩⟩⟩⟩⟩⟩⟩⟩⟩⟩⟩⟩⟩⟩⟩) (by rw [hlen47]; exact ⟨nt_no (by decide), trivial⟩) ?_
                                                  refine Gx.drop (wf_gd hX46 hA46 (hD_29)) (by rw [hlen46]; exact ⟨nt_no (by decide), ⟨nt_no (by decide), ⟨nt_no (by decide), ⟨nt_no (by decide), ⟨nt_no (by decide), ⟨nt_no (by decide), ⟨nt_no (by decide), ⟨nt_no (by decide), ⟨nt_no (by decide), ⟨nt_no (by decide), ⟨nt_no (by decide), ⟨nt_no (by decide), ⟨nt_no (by decide), ⟨nt_no (by decide), ⟨nt_no (by decide), ⟨nt_no (by decide), ⟨nt_no (by decide), ⟨nt_no (by decide), trivial⟩⟩⟩⟩⟩⟩⟩⟩⟩⟩⟩⟩⟩⟩⟩⟩⟩⟩) (by rw [hlen46]; exact ⟨nt_no (by decide), trivial⟩) ?_
                                                  exact x_zretX dL_isBest_744 rfl (Or.inr rfl) ⟨by omega, by omega⟩ Xt.rf ⟨rfl, rfl, fun o h1 h2 => hfin.at (by omega) (by omega)⟩
                                              · skip
                                                refine x_iload dL_isBest_413 rfl ?_
                                                refine x_aload_nS dL_isBest_415 rfl rfl ?_
                                                refine x_bipush dL_isBest_416 (by decide) ?_
                                                refine x_iload dL_isBest_418 rfl ?_
                                                refine x_iadd dL_isBest_420 ?_
                                                refine x_callSP (as := [(3, 13), (0, 24 + st)]) (rest := [(0, bl)]) (k := 0) fL_isBest_421.g ⟨Nat.le_of_ble_eq_true rfl, Nat.le_of_ble_eq_true rfl⟩ ⟨show cs9 ≤ 30000 by omega, show 4 * cs9 + 64 ≤ 130000 by omega⟩ xK_A (wf_gd hX49 hA49 ((GD.cg hD (fun o h1 => ((hF407.at (by omega) (by omega)).trans ((hFJ1.at (by omega) (by omega)).trans ((hF50.at (by omega) (by omega)).trans (hF11.at (by omega) (by omega))))))))) rfl rfl rfl rfl rfl (Nat.le_of_ble_eq_true rfl) ⟨nt_no (by decide), ⟨nt_no (by decide), trivial⟩⟩ (by decide) (show Wp (ax (ax (ax G (20, nn) q46) (20, nn) q47) (23, 4) qb) M_L_cell 0 [(3, 13), (0, 24 + st)] [] μs (pP 0 (sc G (24 + st)) μs) from (s_L_cell (ax (ax (ax G (20, nn) q46) (20, nn) q47) (23, 4) qb) (24 + st) μs hk4 (by first | omega | assumption))) ?_
                                                have hf30 := sc_r G (24 + st)
                                                refine x_bipush dL_isBest_424 (by decide) ?_
                                                refine x_callSP (as := [(0, sc G (24 + st)), (0, 9)]) (rest := [(0, bl)]) (k := 0) fL_isBest_426.g ⟨Nat.le_of_ble_eq_true rfl, Nat.le_of_ble_eq_true rfl⟩ ⟨show cs9 ≤ 30000 by omega, show 4 * cs9 + 64 ≤ 130000 by omega⟩ xK_A (wf_gd hX49 hA49 ((GD.cg hD (fun o h1 => ((hF407.at (by omega) (by omega)).trans ((hFJ1.at (by omega) (by omega)).trans ((hF50.at (by omega) (by omega)).trans (hF11.at (by omega) (by omega))))))))) rfl rfl rfl rfl rfl (Nat.le_of_ble_eq_true rfl) ⟨nt_no (by decide), ⟨nt_no (by decide), trivial⟩⟩ (by decide) (show Wp (ax (ax (ax G (20, nn) q46) (20, nn) q47) (23, 4) qb) M_L_in 0 [(0, sc G (24 + st)), (0, 9)] [] μs (pP 0 (inn (sc G (24 + st)) 9) μs) from (s_L_in (ax (ax (ax G (20, nn) q46) (20, nn) q47) (23, 4) qb) (sc G (24 + st)) 9 μs (by first | omega | assumption))) ?_
                                                have hf31 := inn_rr (sc G (24 + st)) 9 (by omega)
                                                refine x_iadd dL_isBest_429 ?_
                                                refine x_iconst dL_isBest_430 ?_
                                                refine x_isub dL_isBest_431 ?_
                                                refine Gx.top (fun l9 hl9 => ?_)
                                                refine x_istore (ls' := [(2, 0), (3, 13), (2, 45), (0, dN D), (2, 46), (2, 47), (0, bl), (0, br), (0, al), (2, 48), (0, st), (0, l9), (9, 0), (9, 0), (9, 0), (9, 0), (9, 0), (9, 0)]) dL_isBest_432 (Nat.le_of_ble_eq_true rfl) rfl rfl ?_
                                                refine x_iload dL_isBest_434 rfl ?_
                                                refine x_aload_nS dL_isBest_436 rfl rfl ?_
                                                refine x_bipush dL_isBest_437 (by decide) ?_
                                                refine x_iload dL_isBest_439 rfl ?_
                                                refine x_iadd dL_isBest_441 ?_
                                                refine x_callSP (as := [(3, 13), (0, 24 + st)]) (rest := [(0, l9)]) (k := 0) fL_isBest_442.g ⟨Nat.le_of_ble_eq_true rfl, Nat.le_of_ble_eq_true rfl⟩ ⟨show cs9 ≤ 30000 by omega, show 4 * cs9 + 64 ≤ 130000 by omega⟩ xK_A (wf_gd hX49 hA49 ((GD.cg hD (fun o h1 => ((hF407.at (by omega) (by omega)).trans ((hFJ1.at (by omega) (by omega)).trans ((hF50.at (by omega) (by omega)).trans (hF11.at (by omega) (by omega))))))))) rfl rfl rfl rfl rfl (Nat.le_of_ble_eq_true rfl) ⟨nt_no (by decide), ⟨nt_no (by decide), trivial⟩⟩ (by decide) (show Wp (ax (ax (ax G (20, nn) q46) (20, nn) q47) (23, 4) qb) M_L_cell 0 [(3, 13), (0, 24 + st)] [] μs (pP 0 (sc G (24 + st)) μs) from (s_L_cell (ax (ax (ax G (20, nn) q46) (20, nn) q47) (23, 4) qb) (24 + st) μs hk4 (by first | omega | assumption))) ?_
                                                have hf32 := sc_r G (24 + st)
                                                refine x_bipush dL_isBest_445 (by decide) ?_
                                                refine x_idiv dL_isBest_447 (R32.in (by omega)) (R32.in (by decide)) (by omega) ?_
                                                refine x_bipush dL_isBest_448 (by decide) ?_
                                                refine x_callSP (as := [(0, Int.tdiv (sc G (24 + st)) 16), (0, 9)]) (rest := [(0, l9)]) (k := 0) fL_isBest_450.g ⟨Nat.le_of_ble_eq_true rfl, Nat.le_of_ble_eq_true rfl⟩ ⟨show cs9 ≤ 30000 by omega, show 4 * cs9 + 64 ≤ 130000 by omega⟩ xK_A (wf_gd hX49 hA49 ((GD.cg hD (fun o h1 => ((hF407.at (by omega) (by omega)).trans ((hFJ1.at (by omega) (by omega)).trans ((hF50.at (by omega) (by omega)).trans (hF11.at (by omega) (by omega))))))))) rfl rfl rfl rfl rfl (Nat.le_of_ble_eq_true rfl) ⟨nt_no (by decide), ⟨nt_no (by decide), trivial⟩⟩ (by decide) (show Wp (ax (ax (ax G (20, nn) q46) (20, nn) q47) (23, 4) qb) M_L_in 0 [(0, Int.tdiv (sc G (24 + st)) 16), (0, 9)] [] μs (pP 0 (inn (Int.tdiv (sc G (24 + st)) 16) 9) μs) from (s_L_in (ax (ax (ax G (20, nn) q46) (20, nn) q47) (23, 4) qb) (Int.tdiv (sc G (24 + st)) 16) 9 μs (by first | omega | assumption))) ?_
                                                have hf33 := inn_rr (Int.tdiv (sc G (24 + st)) 16) 9 (by omega)
                                                refine x_iadd dL_isBest_453 ?_
                                                refine x_iconst dL_isBest_454 ?_
                                                refine x_isub dL_isBest_455 ?_
                                                refine Gx.top (fun r9 hr9 => ?_)
                                                refine x_istore (ls' := [(2, 0), (3, 13), (2, 45), (0, dN D), (2, 46), (2, 47), (0, bl), (0, br), (0, al), (2, 48), (0, st), (0, l9), (0, r9), (9, 0), (9, 0), (9, 0), (9, 0), (9, 0)]) dL_isBest_456 (Nat.le_of_ble_eq_true rfl) rfl rfl ?_
                                                refine x_iload dL_isBest_458 rfl ?_
                                                refine x_abs fL_isBest_460 (R32.in (by omega)) (Nat.le_of_ble_eq_true rfl) ⟨Nat.le_of_ble_eq_true rfl, Nat.le_of_ble_eq_true rfl, show cs9 ≤ 30000 by omega, show 4 * cs9 + 64 ≤ 130000 by omega⟩ ?_
                                                refine x_bipush dL_isBest_463 (by decide) ?_
                                                refine x_icmp_gt (tgt := 720) dL_isBest_465 rfl (R32.in (by omega)) (R32.in (by decide)) (fun c465 => ?_) (fun c465 => ?_)
                                                · skip
                                                  refine x_iinc (ls' := [(2, 0), (3, 13), (2, 45), (0, dN D), (2, 46), (2, 47), (0, bl), (0, br), (0, al), (2, 48), (0, st + 1), (0, l9), (0, r9), (9, 0), (9, 0), (9, 0), (9, 0), (9, 0)]) dL_isBest_720 rfl (Nat.le_of_ble_eq_true rfl) rfl rfl ?_
                                                  refine x_goto (tgt := 407) dL_isBest_723 rfl ?_
                                                  refine Gx.fgl (ls' := [(2, 0), (3, 13), (2, 45), (0, dN D), (2, 46), (2, 47), (0, bl), (0, br), (0, al), (2, 48), (0, st + 1), (9, 0), (0, r9), (9, 0), (9, 0), (9, 0), (9, 0), (9, 0)]) 11 rfl ?_
                                                  refine Gx.fgl (ls' := [(2, 0), (3, 13), (2, 45), (0, dN D), (2, 46), (2, 47), (0, bl), (0, br), (0, al), (2, 48), (0, st + 1), (9, 0), (9, 0), (9, 0), (9, 0), (9, 0), (9, 0), (9, 0)]) 12 rfl ?_
                                                  exact ih407 _ (by omega) (st + 1) cs9 μs rfl hF407 (by first | omega | assumption) (by first | omega | assumption)
                                                · skip
                                                  refine x_iload dL_isBest_468 rfl ?_
                                                  refine x_abs fL_isBest_470 (R32.in (by omega)) (Nat.le_of_ble_eq_true rfl) ⟨Nat.le_of_ble_eq_true rfl, Nat.le_of_ble_eq_true rfl, show cs9 ≤ 30000 by omega, show 4 * cs9 + 64 ≤ 130000 by omega⟩ ?_
                                                  refine x_bipush dL_isBest_473 (by decide) ?_
                                                  refine x_icmp_le (tgt := 481) dL_isBest_475 rfl (R32.in (by omega)) (R32.in (by decide)) (fun c475 => ?_) (fun c475 => ?_)
                                                  · skip
                                                    refine x_aload_nS dL_isBest_481 rfl rfl ?_
                                                    refine x_aload_n dL_isBest_482 rfl rfl (by first | decide | omega) ?_
                                                    refine x_aload dL_isBest_483 rfl (by first | decide | omega) ?_
                                                    refine x_aload dL_isBest_485 rfl (by first | decide | omega) ?_
                                                    refine x_iload dL_isBest_487 rfl ?_
                                                    refine x_iload dL_isBest_489 rfl ?_
                                                    refine x_callSX (as := [(3, 13), (2, 45), (2, 47), (2, 46), (0, l9), (0, r9)]) (rest := []) (k := 19) (mc := 1) (ms := 4) (P := (judP D l9 r9 49 (ax (ax (ax G (20, nn) q46) (20, nn) q47) (23, 4) qb) μs)) fL_isBest_491.g ⟨Nat.le_of_ble_eq_true rfl, Nat.le_of_ble_eq_true rfl⟩ ⟨show cs9 + 1 ≤ 30000 by omega, show 4 * cs9 + 64 + 4 ≤ 130000 by omega⟩ xK_A (wf_gd hX49 hA49 ((GD.cg hD (fun o h1 => ((hF407.at (by omega) (by omega)).trans ((hFJ1.at (by omega) (by omega)).trans ((hF50.at (by omega) (by omega)).trans (hF11.at (by omega) (by omega))))))))) rfl rfl rfl rfl rfl (Nat.le_of_ble_eq_true rfl) (by rw [hlen49]; exact ⟨fun _ => (by omega), ⟨nt_no (by decide), ⟨fun _ => (by omega), ⟨nt_no (by decide), ⟨fun _ => (by omega), ⟨fun _ => (by omega), ⟨nt_no (by decide), ⟨nt_no (by decide), ⟨nt_no (by decide), ⟨fun _ => (by omega), ⟨nt_no (by decide), ⟨nt_no (by decide), ⟨nt_no (by decide), ⟨nt_no (by decide), ⟨nt_no (by decide), ⟨nt_no (by decide), ⟨nt_no (by decide), ⟨nt_no (by decide), trivial⟩⟩⟩⟩⟩⟩⟩⟩⟩⟩⟩⟩⟩⟩⟩⟩⟩⟩) (by rw [hlen49]; exact trivial) (s_L_judged (ax (ax (ax G (20, nn) q46) (20, nn) q47) (23, 4) qb) D nn 49 l9 r9 μs hlen49 (by decide) hs45 hs46 hs47 (wf_gd hX49 hA49 ((GD.cg hD (fun o h1 => ((hF407.at (by omega) (by omega)).trans ((hFJ1.at (by omega) (by omega)).trans ((hF50.at (by omega) (by omega)).trans (hF11.at (by omega) (by omega))))))))) (LD.cg hLD (fun o h1 => ((hF407.at (by omega) (by omega)).trans ((hFJ1.at (by omega) (by omega)).trans (hF50.at (by omega) (by omega)))))) (LW.cg hW50 (fun o h1 => ((hF407.at (by omega) (by omega)).trans (hFJ1.at (by omega) (by omega))))) (by omega)) (fun G491 r491 μ491 hp491 hx491 => ?_)
                                                    rcases hp491 with ⟨hna491, rfl, rfl, rfl⟩ | ⟨hal491, q491, rfl, rfl, hv491, ho491⟩
                                                    · skip
                                                      refine Gx.cg (ls' := [(2, 0), (3, 13), (2, 45), (0, dN D), (2, 46), (2, 47), (0, bl), (0, br), (0, al), (2, 48), (0, st), (0, l9), (0, r9), (9, 0), (9, 0), (9, 0), (9, 0), (9, 0)]) (st' := [(2, -1)]) (μ' := μs) ?_ rfl rfl rfl
                                                      refine Gx.widen (cs2 := cs9 + 1) (ss2 := 4 * (cs9 + 1) + 64) (by omega) (by omega) ?_
                                                      refine x_astoreN (ls' := [(2, 0), (3, 13), (2, 45), (0, dN D), (2, 46), (2, 47), (0, bl), (0, br), (0, al), (2, 48), (0, st), (0, l9), (0, r9), (2, -1), (9, 0), (9, 0), (9, 0), (9, 0)]) dL_isBest_494 (Nat.le_of_ble_eq_true rfl) rfl rfl ?_
                                                      refine x_aload_n dL_isBest_496 rfl rfl (by first | decide | omega) ?_
                                                      refine x_iconst dL_isBest_497 ?_
                                                      refine x_iload dL_isBest_498 rfl ?_
                                                      refine x_iload dL_isBest_500 rfl ?_
                                                      refine x_iconst dL_isBest_502 ?_
                                                      refine x_callVI (o := 0) (ci := 7) (as := [(0, 0), (0, l9), (0, r9), (0, 0)]) (rest := []) (k := 0) (Gs := GG X) fL_isBest_503.g ⟨Nat.le_of_ble_eq_true rfl, Nat.le_of_ble_eq_true rfl⟩ ⟨show cs9 + 1 ≤ 30000 by omega, show 4 * (cs9 + 1) + 64 ≤ 130000 by omega⟩ xK_A hX49 (wf_gd Xt.rf ARR_GG ((GD.cg hD (fun o h1 => ((hF407.at (by omega) (by omega)).trans ((hFJ1.at (by omega) (by omega)).trans ((hF50.at (by omega) (by omega)).trans (hF11.at (by omega) (by omega))))))))) rfl rfl rfl rfl rfl rfl rfl rfl (Nat.le_of_ble_eq_true rfl) ⟨nt_no (by decide), ⟨nt_no (by decide), ⟨nt_no (by decide), ⟨nt_no (by decide), trivial⟩⟩⟩⟩ (by decide) (q_ugliness X p D nn l9 r9 μs (GD.cg hD (fun o h1 => ((hF407.at (by omega) (by omega)).trans ((hFJ1.at (by omega) (by omega)).trans ((hF50.at (by omega) (by omega)).trans (hF11.at (by omega) (by omega))))))) (by first | omega | assumption)) (fun x9 μ9 h9 => ⟨wf_gd Xt.rf ARR_GG h9.2.1, fun o ho => h9.1.at (by have h8 : (45 : Int) ≤ o := ho; omega) (by have h8 : (45 : Int) ≤ o := ho; omega)⟩) (fun x34 μ_34 hμ34 => ?_)
                                                      obtain ⟨hF34, hD_34, hz_34⟩ := hμ34
                                                      have hu9 : RES = -2 := (by rw [hz_#]; exact if_neg (fun q9 => hna491 ((alwB_iff (by omega)).mp q9)))
                                                      refine x_i2l dL_isBest_506 (R32.in (by omega)) ?_
                                                      refine x_aloadN dL_isBest_507 rfl ?_
                                                      refine x_ifnonnull_n dL_isBest_509 ?_
                                                      refine x_ldc2 (n := -2) dL_isBest_512 k_1212 (by decide) ?_
                                                      refine x_goto (tgt := 532) dL_isBest_515 rfl ?_
                                                      refine x_lc_eq (tgt := 538) dL_isBest_532 dL_isBest_533 rfl (R64.in (by omega)) (R64.in (by omega)) (fun c533 => ?_) (fun c533 => ?_)
                                                      · skip
                                                        refine x_aloadN dL_isBest_538 rfl ?_
                                                        refine x_ifnonnull_n dL_isBest_540 ?_
                                                        refine x_aload_n dL_isBest_543 rfl rfl (by first | decide | omega) ?_
                                                        refine x_iconst dL_isBest_544 ?_
                                                        refine x_iload dL_isBest_545 rfl ?_
                                                        refine x_iload dL_isBest_547 rfl ?_
                                                        refine x_callVI (o := 0) (ci := 7) (as := [(0, 0), (0, l9), (0, r9)]) (rest := []) (k := 0) (Gs := GG X) fL_isBest_549.g ⟨Nat.le_of_ble_eq_true rfl, Nat.le_of_ble_eq_true rfl⟩ ⟨show cs9 + 1 ≤ 30000 by omega, show 4 * (cs9 + 1) + 64 ≤ 130000 by omega⟩ xK_A hX49 (wf_gd Xt.rf ARR_GG (hD_34)) rfl rfl rfl rfl rfl rfl rfl rfl (Nat.le_of_ble_eq_true rfl) ⟨nt_no (by decide), ⟨nt_no (by decide), ⟨nt_no (by decide), trivial⟩⟩⟩ (by decide) (q_rank X p D nn l9 r9 μ_34 hD_34 (by first | omega | assumption)) (fun x9 μ9 h9 => ⟨wf_gd Xt.rf ARR_GG h9.2.1, fun o ho => h9.1.at (by have h8 : (45 : Int) ≤ o := ho; omega) (by have h8 : (45 : Int) ≤ o := ho; omega)⟩) (fun x35 μ_35 hμ35 => ?_)
                                                        obtain ⟨hF35, hD_35, hz_35⟩ := hμ35
                                                        have hu8 : x35 = -2 := (by rw [hz_35]; exact if_neg (fun q9 => hna491 ((alwB_iff (by omega)).mp q9)))
                                                        refine x_bipush dL_isBest_552 (by decide) ?_
                                                        refine x_icmp_eq (tgt := 720) dL_isBest_554 rfl (R32.in (by omega)) (R32.in (by decide)) (fun c554 => ?_) (fun c554 => ?_)
                                                        · skip
                                                          refine x_iinc (ls' := [(2, 0), (3, 13), (2, 45), (0, dN D), (2, 46), (2, 47), (0, bl), (0, br), (0, al), (2, 48), (0, st + 1), (0, l9), (0, r9), (2, -1), (9, 0), (9, 0), (9, 0), (9, 0)]) dL_isBest_720 rfl (Nat.le_of_ble_eq_true rfl) rfl rfl ?_
                                                          refine x_goto (tgt := 407) dL_isBest_723 rfl ?_
                                                          refine Gx.fgl (ls' := [(2, 0), (3, 13), (2, 45), (0, dN D), (2, 46), (2, 47), (0, bl), (0, br), (0, al), (2, 48), (0, st + 1), (9, 0), (0, r9), (2, -1), (9, 0), (9, 0), (9, 0), (9, 0)]) 11 rfl ?_
                                                          refine Gx.fgl (ls' := [(2, 0), (3, 13), (2, 45), (0, dN D), (2, 46), (2, 47), (0, bl), (0, br), (0, al), (2, 48), (0, st + 1), (9, 0), (9, 0), (2, -1), (9, 0), (9, 0), (9, 0), (9, 0)]) 12 rfl ?_
                                                          refine Gx.fgl (ls' := [(2, 0), (3, 13), (2, 45), (0, dN D), (2, 46), (2, 47), (0, bl), (0, br), (0, al), (2, 48), (0, st + 1), (9, 0), (9, 0), (9, 0), (9, 0), (9, 0), (9, 0), (9, 0)]) 13 rfl ?_
                                                          exact ih407 _ (by omega) (st + 1) (cs9 + 1) μ_35 rfl ((hF35.wd (by omega) (by omega)).tr ((hF34.wd (by omega) (by omega)).tr hF407)) (by first | omega | assumption) (by first | omega | assumption)
                                                        · skip
                                                          exact c554 hu8
                                                      · skip
                                                        exact c533 hu9
                                                    · skip
                                                      refine Gx.cg (ls' := [(2, 0), (3, 13), (2, 45), (0, dN D), (2, 46), (2, 47), (0, bl), (0, br), (0, al), (2, 48), (0, st), (0, l9), (0, r9), (9, 0), (9, 0), (9, 0), (9, 0), (9, 0)]) (st' := [(2, 49)]) (μ' := μ491) ?_ rfl rfl rfl
                                                      refine Gx.widen (cs2 := cs9 + 1) (ss2 := 4 * (cs9 + 1) + 64) (by omega) (by omega) ?_
                                                      have hF491 : Fr 49 49 1 0 μ491 μs := (fun o h1 h2 => ho491 o (by omega))
                                                      have hJ491 : rowJ μ491 49 D l9 r9 := hv491
                                                      have hlen50 : (gS (ax (ax (ax (ax G (20, nn) q46) (20, nn) q47) (23, 4) qb) (23, 4) q491)).length = 50 := (by rw [ax_len, hlen49])
                                                      have hX50 : Xt (GG X) (ax (ax (ax (ax G (20, nn) q46) (20, nn) q47) (23, 4) qb) (23, 4) q491) := hX49.tr (Xt.ax (ax (ax (ax G (20, nn) q46) (20, nn) q47) (23, 4) qb) (23, 4) q491)
                                                      have hA50 : ARR (ax (ax (ax (ax G (20, nn) q46) (20, nn) q47) (23, 4) qb) (23, 4) q491) := hA49.ax (Nat.le_of_ble_eq_true rfl)
                                                      have hs45 := (Xt.ax (ax (ax (ax G (20, nn) q46) (20, nn) q47) (23, 4) qb) (23, 4) q491).sh hs45
                                                      have hs46 := (Xt.ax (ax (ax (ax G (20, nn) q46) (20, nn) q47) (23, 4) qb) (23, 4) q491).sh hs46
                                                      have hs47 := (Xt.ax (ax (ax (ax G (20, nn) q46) (20, nn) q47) (23, 4) qb) (23, 4) q491).sh hs47
                                                      have hs48 := (Xt.ax (ax (ax (ax G (20, nn) q46) (20, nn) q47) (23, 4) qb) (23, 4) q491).sh hs48
                                                      have hs49 : (gS (ax (ax (ax (ax G (20, nn) q46) (20, nn) q47) (23, 4) qb) (23, 4) q491))[49]? = some (23, 4) := (by have h9 := @ax_sh (ax (ax (ax G (20, nn) q46) (20, nn) q47) (23, 4) qb) (23, 4) q491; rw [hlen49] at h9; exact h9)
                                                      have hst9 := stm_a hok hal491
                                                      have hsl9 := slp_f D (r9 - l9) (by omega)
                                                      have hsf9 := stf_f D (r9 - l9) l9 hok
                                                      refine x_astore (ls' := [(2, 0), (3, 13), (2, 45), (0, dN D), (2, 46), (2, 47), (0, bl), (0, br), (0, al), (2, 48), (0, st), (0, l9), (0, r9), (2, 49), (9, 0), (9, 0), (9, 0), (9, 0)]) dL_isBest_494 (Nat.le_of_ble_eq_true rfl) rfl (by first | decide | omega) rfl ?_
                                                      refine x_aload_n dL_isBest_496 rfl rfl (by first | decide | omega) ?_
                                                      refine x_iconst dL_isBest_497 ?_
                                                      refine x_iload dL_isBest_498 rfl ?_
                                                      refine x_iload dL_isBest_500 rfl ?_
                                                      refine x_iconst dL_isBest_502 ?_
                                                      refine x_callVI (o := 0) (ci := 7) (as := [(0, 0), (0, l9), (0, r9), (0, 0)]) (rest := []) (k := 0) (Gs := GG X) fL_isBest_503.g ⟨Nat.le_of_ble_eq_true rfl, Nat.le_of_ble_eq_true rfl⟩ ⟨show cs9 + 1 ≤ 30000 by omega, show 4 * (cs9 + 1) + 64 ≤ 130000 by omega⟩ xK_A hX50 (wf_gd Xt.rf ARR_GG ((GD.cg hD (fun o h1 => ((hF491.at (by omega) (by omega)).trans ((hF407.at (by omega) (by omega)).trans ((hFJ1.at (by omega) (by omega)).trans ((hF50.at (by omega) (by omega)).trans (hF11.at (by omega) (by omega)))))))))) rfl rfl rfl rfl rfl rfl rfl rfl (Nat.le_of_ble_eq_true rfl) ⟨nt_no (by decide), ⟨nt_no (by decide), ⟨nt_no (by decide), ⟨nt_no (by decide), trivial⟩⟩⟩⟩ (by decide) (q_ugliness X p D nn l9 r9 μ491 (GD.cg hD (fun o h1 => ((hF491.at (by omega) (by omega)).trans ((hF407.at (by omega) (by omega)).trans ((hFJ1.at (by omega) (by omega)).trans ((hF50.at (by omega) (by omega)).trans (hF11.at (by omega) (by omega)))))))) (by first | omega | assumption)) (fun x9 μ9 h9 => ⟨wf_gd Xt.rf ARR_GG h9.2.1, fun o ho => h9.1.at (by have h8 : (45 : Int) ≤ o := ho; omega) (by have h8 : (45 : Int) ≤ o := ho; omega)⟩) (fun x36 μ_36 hμ36 => ?_)
                                                      obtain ⟨hF36, hD_36, hz_36⟩ := hμ36
                                                      have hu9 : RES = stm D (r9 - l9) l9 + slp D (r9 - l9) + stf D (r9 - l9) l9 := (by rw [hz_#, if_pos ((alwB_iff (by omega)).mpr hal491)]; rfl)
                                                      refine x_i2l dL_isBest_506 (R32.in (by omega)) ?_
                                                      refine x_aload dL_isBest_507 rfl (by first | decide | omega) ?_
                                                      refine x_ifnonnull_r (tgt := 518) dL_isBest_509 rfl (by omega) ?_
                                                      refine x_aload dL_isBest_518 rfl (by first | decide | omega) ?_
                                                      refine x_iconst dL_isBest_520 ?_
                                                      refine x_laldx (o := 49) (n := 4) (x := stm D (r9 - l9) l9) dL_isBest_521 rfl hs49 (Nat.le_of_ble_eq_true rfl) (by omega) ((congrFun (hF36.at (by omega) (by omega)) _).trans hJ491.1.1) ?_
                                                      refine x_aload dL_isBest_522 rfl (by first | decide | omega) ?_
                                                      refine x_iconst dL_isBest_524 ?_
                                                      refine x_laldx (o := 49) (n := 4) (x := slp D (r9 - l9)) dL_isBest_525 rfl hs49 (Nat.le_of_ble_eq_true rfl) (by omega) ((congrFun (hF36.at (by omega) (by omega)) _).trans hJ491.1.2) ?_
                                                      refine x_ladd dL_isBest_526 ?_
                                                      refine x_aload dL_isBest_527 rfl (by first | decide | omega) ?_
                                                      refine x_iconst dL_isBest_529 ?_
                                                      refine x_laldx (o := 49) (n := 4) (x := stf D (r9 - l9) l9) dL_isBest_530 rfl hs49 (Nat.le_of_ble_eq_true rfl) (by omega) ((congrFun (hF36.at (by omega) (by omega)) _).trans hJ491.2.1) ?_
                                                      refine x_ladd dL_isBest_531 ?_
                                                      refine x_lc_eq (tgt := 538) dL_isBest_532 dL_isBest_533 rfl (R64.in (by omega)) (R64.in (by omega)) (fun c533 => ?_) (fun c533 => ?_)
                                                      · skip
                                                        refine x_aload dL_isBest_538 rfl (by first | decide | omega) ?_
                                                        refine x_ifnonnull_r (tgt := 559) dL_isBest_540 rfl (by omega) ?_
                                                        refine x_iconst dL_isBest_559 ?_
                                                        refine x_istore (ls' := [(2, 0), (3, 13), (2, 45), (0, dN D), (2, 46), (2, 47), (0, bl), (0, br), (0, al), (2, 48), (0, st), (0, l9), (0, r9), (2, 49), (0, 0), (9, 0), (9, 0), (9, 0)]) dL_isBest_560 (Nat.le_of_ble_eq_true rfl) rfl rfl ?_
                                                        refine x_bipush dL_isBest_562 (by decide) ?_
                                                        refine x_istore (ls' := [(2, 0), (3, 13), (2, 45), (0, dN D), (2, 46), (2, 47), (0, bl), (0, br), (0, al), (2, 48), (0, st), (0, l9), (0, r9), (2, 49), (0, 0), (0, -60), (9, 0), (9, 0)]) dL_isBest_564 (Nat.le_of_ble_eq_true rfl) rfl rfl ?_
                                                        have hJ2 : ∀ nJ2 : Nat, (∀ (k : Int) (a : Int) (cc2 : Nat) (μr : Mu), ((61 - a) * 40 + 20).toNat = nJ2 → Fr 50 60 1 0 μr μ_36 → (-60 ≤ a ∧ a ≤ 61) → (k = cnB D (sN D a (-60)) (keyq D (l9, r9))) → ((cc2 : Int) + ((61 - a) * 40 + 20) ≤ cc + 4950) → Gx (xK G M_L_isBest 30000 130000 (ibP G μ)) (ax (ax (ax (ax G (20, nn) q46) (20, nn) q47) (23, 4) qb) (23, 4) q491) M_L_isBest cc2 (4 * (cc2) + 64) 566 [(2, 0), (3, 13), (2, 45), (0, dN D), (2, 46), (2, 47), (0, bl), (0, br), (0, al), (2, 48), (0, st), (0, l9), (0, r9), (2, 49), (0, k), (0, a), (9, 0), (9, 0)] [] μr) ∧ (∀ (k : Int) (a : Int) (b : Int) (cc2 : Nat) (μr : Mu), ((61 - a) * 40 + (9 - (b - a))).toNat = nJ2 → Fr 50 60 1 0 μr μ_36 → (-60 ≤ a ∧ a ≤ 60) → ((-60 ≤ b ∧ b ≤ 61) ∧ (a - 8 ≤ b ∧ b ≤ a + 9)) → (k = cnB D (sN D a b) (keyq D (l9, r9))) → ((cc2 : Int) + ((61 - a) * 40 + (9 - (b - a))) ≤ cc + 4950) → Gx (xK G M_L_isBest 30000 130000 (ibP G μ)) (ax (ax (ax (ax G (20, nn) q46) (20, nn) q47) (23, 4) qb) (23, 4) q491) M_L_isBest cc2 (4 * (cc2) + 64) 585 [(2, 0), (3, 13), (2, 45), (0, dN D), (2, 46), (2, 47), (0, bl), (0, br), (0, al), (2, 48), (0, st), (0, l9), (0, r9), (2, 49), (0, k), (0, a), (0, b), (9, 0)] [] μr) := by
                                                          intro nJ2
                                                          induction nJ2 using Nat.strongRecOn with
                                                          | ind nJ2 ihJ2 =>
                                                            refine ⟨?_, ?_⟩
                                                            · intro k a cc2 μr hnJ2 hFJ2 ha hR hcc2
                                                              have hkr := cnB_r (D := D) (sN D a (-60)) (keyq D (l9, r9))
                                                              have hkl := sN_len (D := D) (l := a) (r := -60) (by omega) (by omega)
                                                              refine x_iload dL_isBest_566 rfl ?_
                                                              refine x_bipush dL_isBest_568 (by decide) ?_
                                                              refine x_icmp_gt (tgt := 678) dL_isBest_570 rfl (R32.in (by omega)) (R32.in (by decide)) (fun c570 => ?_) (fun c570 => ?_)
                                                              · skip
                                                                have hk9 : k = rkD D (key D (r9 - l9) l9) := (by rw [hR, show a = 61 by omega, sN_end, cnB_end]; rfl)
                                                                have hi9 := lr_inS (l := l9) (r := r9) (by omega)
                                                                refine x_aload_n dL_isBest_678 rfl rfl (by first | decide | omega) ?_
                                                                refine x_iconst dL_isBest_679 ?_
                                                                refine x_iload dL_isBest_680 rfl ?_
                                                                refine x_iload dL_isBest_682 rfl ?_
                                                                refine x_callVI (o := 0) (ci := 7) (as := [(0, 0), (0, l9), (0, r9)]) (rest := []) (k := 0) (Gs := GG X) fL_isBest_684.g ⟨Nat.le_of_ble_eq_true rfl, Nat.le_of_ble_eq_true rfl⟩ ⟨show cc2 ≤ 30000 by omega, show 4 * (cc2) + 64 ≤ 130000 by omega⟩ xK_A hX50 (wf_gd Xt.rf ARR_GG ((GD.cg hD_36 (fun o h1 => (hFJ2.at (by omega) (by omega)))))) rfl rfl rfl rfl rfl rfl rfl rfl (Nat.le_of_ble_eq_true rfl) ⟨nt_no (by decide), ⟨nt_no (by decide), ⟨nt_no (by decide), trivial⟩⟩⟩ (by decide) (q_rank X p D nn l9 r9 μr (GD.cg hD_36 (fun o h1 => (hFJ2.at (by omega) (by omega)))) (by first | omega | assumption)) (fun x9 μ9 h9 => ⟨wf_gd Xt.rf ARR_GG h9.2.1, fun o ho => h9.1.at (by have h8 : (45 : Int) ≤ o := ho; omega) (by have h8 : (45 : Int) ≤ o := ho; omega)⟩) (fun x37 μ_37 hμ37 => ?_)
                                                                obtain ⟨hF37, hD_37, hz_37⟩ := hμ37
                                                                have hu7 : x37 = k := (by rw [hz_37, if_pos ((alwB_iff (by omega)).mpr hal491)]; exact hk9.symm)
                                                                refine x_iload dL_isBest_687 rfl ?_
                                                                refine x_icmp_ne (tgt := 718) dL_isBest_689 rfl (R32.in (by omega)) (R32.in (by omega)) (fun c689 => ?_) (fun c689 => ?_)
                                                                · skip
                                                                  exact c689 hu7
                                                                · skip
                                                                  refine x_aload_n dL_isBest_692 rfl rfl (by first | decide | omega) ?_
                                                                  refine x_iconst dL_isBest_693 ?_
                                                                  refine x_iload dL_isBest_694 rfl ?_
                                                                  refine x_iconst dL_isBest_696 ?_
                                                                  refine x_callVI (o := 0) (ci := 7) (as := [(0, 0), (0, k), (0, 0)]) (rest := []) (k := 0) (Gs := GG X) fL_isBest_697.g ⟨Nat.le_of_ble_eq_true rfl, Nat.le_of_ble_eq_true rfl⟩ ⟨show cc2 ≤ 30000 by omega, show 4 * (cc2) + 64 ≤ 130000 by omega⟩ xK_A hX50 (wf_gd Xt.rf ARR_GG (hD_37)) rfl rfl rfl rfl rfl rfl rfl rfl (Nat.le_of_ble_eq_true rfl) ⟨nt_no (by decide), ⟨nt_no (by decide), ⟨nt_no (by decide), trivial⟩⟩⟩ (by decide) (q_ranked X p D nn k 0 μ_37 hD_37 (by first | omega | assumption) (by first | omega | assumption)) (fun x9 μ9 h9 => ⟨wf_gd Xt.rf ARR_GG h9.2.1, fun o ho => h9.1.at (by have h8 : (45 : Int) ≤ o := ho; omega) (by have h8 : (45 : Int) ≤ o := ho; omega)⟩) (fun x38 μ_38 hμ38 => ?_)
                                                                  obtain ⟨hF38, hD_38, hz_38⟩ := hμ38
                                                                  have hu6 : x38 = l9 := rnk_is hok hi9 hal491 hk9 hz_38
                                                                  refine x_iload dL_isBest_700 rfl ?_
                                                                  refine x_icmp_ne (tgt := 718) dL_isBest_702 rfl (R32.in (by omega)) (R32.in (by omega)) (fun c702 => ?_) (fun c702 => ?_)
                                                                  · skip
                                                                    exact c702 hu6
                                                                  · skip
                                                                    refine x_aload_n dL_isBest_705 rfl rfl (by first | decide | omega) ?_
                                                                    refine x_iconst dL_isBest_706 ?_
                                                                    refine x_iload dL_isBest_707 rfl ?_
                                                                    refine x_iconst dL_isBest_709 ?_
                                                                    refine x_callVI (o := 0) (ci := 7) (as := [(0, 0), (0, k), (0, 1)]) (rest := []) (k := 0) (Gs := GG X) fL_isBest_710.g ⟨Nat.le_of_ble_eq_true rfl, Nat.le_of_ble_eq_true rfl⟩ ⟨show cc2 ≤ 30000 by omega, show 4 * (cc2) + 64 ≤ 130000 by omega⟩ xK_A hX50 (wf_gd Xt.rf ARR_GG (hD_38)) rfl rfl rfl rfl rfl rfl rfl rfl (Nat.le_of_ble_eq_true rfl) ⟨nt_no (by decide), ⟨nt_no (by decide), ⟨nt_no (by decide), trivial⟩⟩⟩ (by decide) (q_ranked X p D nn k 1 μ_38 hD_38 (by first | omega | assumption) (by first | omega | assumption)) (fun x9 μ9 h9 => ⟨wf_gd Xt.rf ARR_GG h9.2.1, fun o ho => h9.1.at (by have h8 : (45 : Int) ≤ o := ho; omega) (by have h8 : (45 : Int) ≤ o := ho; omega)⟩) (fun x39 μ_39 hμ39 => ?_)
                                                                    obtain ⟨hF39, hD_39, hz_39⟩ := hμ39
                                                                    have hu5 : x39 = r9 := (by rw [rnk_is hok hi9 hal491 hk9 hz_39]; show l9 + (r9 - l9) = r9; omega)
                                                                    refine x_iload dL_isBest_713 rfl ?_
                                                                    refine x_icmp_eq (tgt := 720) dL_isBest_715 rfl (R32.in (by omega)) (R32.in (by omega)) (fun c715 => ?_) (fun c715 => ?_)
                                                                    · skip
                                                                      refine x_iinc (ls' := [(2, 0), (3, 13), (2, 45), (0, dN D), (2, 46), (2, 47), (0, bl), (0, br), (0, al), (2, 48), (0, st + 1), (0, l9), (0, r9), (2, 49), (0, k), (0, a), (9, 0), (9, 0)]) dL_isBest_720 rfl (Nat.le_of_ble_eq_true rfl) rfl rfl ?_
                                                                      refine x_goto (tgt := 407) dL_isBest_723 rfl ?_
                                                                      refine Gx.fgl (ls' := [(2, 0), (3, 13), (2, 45), (0, dN D), (2, 46), (2, 47), (0, bl), (0, br), (0, al), (2, 48), (0, st + 1), (9, 0), (0, r9), (2, 49), (0, k), (0, a), (9, 0), (9, 0)]) 11 rfl ?_
                                                                      refine Gx.fgl (ls' := [(2, 0), (3, 13), (2, 45), (0, dN D), (2, 46), (2, 47), (0, bl), (0, br), (0, al), (2, 48), (0, st + 1), (9, 0), (9, 0), (2, 49), (0, k), (0, a), (9, 0), (9, 0)]) 12 rfl ?_
                                                                      refine Gx.fgl (ls' := [(2, 0), (3, 13), (2, 45), (0, dN D), (2, 46), (2, 47), (0, bl), (0, br), (0, al), (2, 48), (0, st + 1), (9, 0), (9, 0), (9, 0), (0, k), (0, a), (9, 0), (9, 0)]) 13 rfl ?_
                                                                      refine Gx.fgl (ls' := [(2, 0), (3, 13), (2, 45), (0, dN D), (2, 46), (2, 47), (0, bl), (0, br), (0, al), (2, 48), (0, st + 1), (9, 0), (9, 0), (9, 0), (9, 0), (0, a), (9, 0), (9, 0)]) 14 rfl ?_
                                                                      refine Gx.fgl (ls' := [(2, 0), (3, 13), (2, 45), (0, dN D), (2, 46), (2, 47), (0, bl), (0, br), (0, al), (2, 48), (0, st + 1), (9, 0), (9, 0), (9, 0), (9, 0), (9, 0), (9, 0), (9, 0)]) 15 rfl ?_
                                                                      refine Gx.drop (wf_gd hX49 hA49 (hD_39)) (by rw [hlen49]; exact ⟨fun _ => (by omega), ⟨nt_no (by decide), ⟨fun _ => (by omega), ⟨nt_no (by decide), ⟨fun _ => (by omega), ⟨fun _ => (by omega), ⟨nt_no (by decide), ⟨nt_no (by decide), ⟨nt_no (by decide), ⟨fun _ => (by omega), ⟨nt_no (by decide), ⟨nt_no (by decide), ⟨nt_no (by decide), ⟨nt_no (by decide), ⟨nt_no (by decide), ⟨nt_no (by decide), ⟨nt_no (by decide), ⟨nt_no (by decide), trivial⟩⟩⟩⟩⟩⟩⟩⟩⟩⟩⟩⟩⟩⟩⟩⟩⟩⟩) (by rw [hlen49]; exact trivial) ?_
                                                                      exact ih407 _ (by omega) (st + 1) cc2 μ_39 rfl ((hF39.wd (by omega) (by omega)).tr ((hF38.wd (by omega) (by omega)).tr ((hF37.wd (by omega) (by omega)).tr ((hFJ2.wd (by omega) (by omega)).tr ((hF36.wd (by omega) (by omega)).tr ((hF491.wd (by omega) (by omega)).tr hF407)))))) (by first | omega | assumption) (by first | omega | assumption)
                                                                    · skip
                                                                      exact c715 hu5
                                                              · skip
                                                                refine x_bipush dL_isBest_573 (by decide) ?_
                                                                refine x_iload dL_isBest_575 rfl ?_
                                                                refine x_bipush dL_isBest_577 (by decide) ?_
                                                                refine x_isub dL_isBest_579 ?_
                                                                refine x_max fL_isBest_580 (R32.in (by decide)) (R32.in (by omega)) (Nat.le_of_ble_eq_true rfl) ⟨Nat.le_of_ble_eq_true rfl, Nat.le_of_ble_eq_true rfl, show cc2 ≤ 30000 by omega, show 4 * (cc2) + 64 ≤ 130000 by omega⟩ ?_
                                                                refine x_istore (ls' := [(2, 0), (3, 13), (2, 45), (0, dN D), (2, 46), (2, 47), (0, bl), (0, br), (0, al), (2, 48), (0, st), (0, l9), (0, r9), (2, 49), (0, k), (0, a), (0, max (-60) (a - 8)), (9, 0)]) dL_isBest_583 (Nat.le_of_ble_eq_true rfl) rfl rfl ?_
                                                                exact (ihJ2 _ (by omega)).2.2.2.2.2 k a (max (-60) (a - 8)) cc2 μr rfl hFJ2 (by omega) (by omega) (by first | (rw [@sN_beg _ a (by omega)]; exact hR) | (rw [@sN_n _ a (max (-60) (a - 8)) (by omega) (by omega) (fun q9 => hna610 ((alwB_iff (by omega)).mp q9.2)), Int.add_zero]; exact hR) | (rw [@sN_y _ a (max (-60) (a - 8)) (by omega) (by omega) (by omega) ((alwB_iff (by omega)).mpr hal610), cnB_s, ← hR]; first | (rw [if_pos c655]) | (rw [if_neg c655]) | (rw [if_neg (by rw [c626, c631]; exact Int.lt_irrefl _)]))) (by omega)
                                                            · intro k a b cc2 μr hnJ2 hFJ2 ha hb hR hcc2
                                                              have hkr := cnB_r (D := D) (sN D a b) (keyq D (l9, r9))
                                                              have hkl := sN_len (D := D) (l := a) (r := b) (by omega) (by omega)
                                                              refine x_iload dL_isBest_585 rfl ?_
                                                              refine x_bipush dL_isBest_587 (by decide) ?_
                                                              refine x_iload dL_isBest_589 rfl ?_
                                                              refine x_bipush dL_isBest_591 (by decide) ?_
                                                              refine x_iadd dL_isBest_593 ?_
                                                              refine x_min fL_isBest_594 (R32.in (by decide)) (R32.in (by omega)) (Nat.le_of_ble_eq_true rfl) ⟨Nat.le_of_ble_eq_true rfl, Nat.le_of_ble_eq_true rfl, show cc2 ≤ 30000 by omega, show 4 * (cc2) + 64 ≤ 130000 by omega⟩ ?_
                                                              refine x_icmp_gt (tgt := 672) dL_isBest_597 rfl (R32.in (by omega)) (R32.in (by omega)) (fun c597 => ?_) (fun c597 => ?_)
                                                              · skip
                                                                refine x_iinc (ls' := [(2, 0), (3, 13), (2, 45), (0, dN D), (2, 46), (2, 47), (0, bl), (0, br), (0, al), (2, 48), (0, st), (0, l9), (0, r9), (2, 49), (0, k), (0, a + 1), (0, b), (9, 0)]) dL_isBest_672 rfl (Nat.le_of_ble_eq_true rfl) rfl rfl ?_
                                                                refine x_goto (tgt := 566) dL_isBest_675 rfl ?_
                                                                refine Gx.fgl (ls' := [(2, 0), (3, 13), (2, 45), (0, dN D), (2, 46), (2, 47), (0, bl), (0, br), (0, al), (2, 48), (0, st), (0, l9), (0, r9), (2, 49), (0, k), (0, a + 1), (9, 0), (9, 0)]) 16 rfl ?_
                                                                exact (ihJ2 _ (by omega)).2.2.2.2 k (a + 1) cc2 μr rfl hFJ2 (by omega) (by rw [@sN_row _ (a + 1) b (by omega) (by omega) (by intro x h1 h2; omega)]; exact hR) (by omega)
                                                              · skip
                                                                refine x_aload_nS dL_isBest_600 rfl rfl ?_
                                                                refine x_aload_n dL_isBest_601 rfl rfl (by first | decide | omega) ?_
                                                                refine x_aload dL_isBest_602 rfl (by first | decide | omega) ?_
                                                                refine x_aload dL_isBest_604 rfl (by first | decide | omega) ?_
                                                                refine x_iload dL_isBest_606 rfl ?_
                                                                refine x_iload dL_isBest_608 rfl ?_
                                                                refine x_callSX (as := [(3, 13), (2, 45), (2, 47), (2, 46), (0, a), (0, b)]) (rest := []) (k := 19) (mc := 1) (ms := 4) (P := (judP D a b 50 (ax (ax (ax (ax G (20, nn) q46) (20, nn) q47) (23, 4) qb) (23, 4) q491) μr)) fL_isBest_610.g ⟨Nat.le_of_ble_eq_true rfl, Nat.le_of_ble_eq_true rfl⟩ ⟨show cc2 + 1 ≤ 30000 by omega, show 4 * (cc2) + 64 + 4 ≤ 130000 by omega⟩ xK_A (wf_gd hX50 hA50 ((GD.cg hD_36 (fun o h1 => (hFJ2.at (by omega) (by omega)))))) rfl rfl rfl rfl rfl (Nat.le_of_ble_eq_true rfl) (by rw [hlen50]; exact ⟨fun _ => (by omega), ⟨nt_no (by decide), ⟨fun _ => (by omega), ⟨nt_no (by decide), ⟨fun _ => (by omega), ⟨fun _ => (by omega), ⟨nt_no (by decide), ⟨nt_no (by decide), ⟨nt_no (by decide), ⟨fun _ => (by omega), ⟨nt_no (by decide), ⟨nt_no (by decide), ⟨nt_no (by decide), ⟨fun _ => (by omega), ⟨nt_no (by decide), ⟨nt_no (by decide), ⟨nt_no (by decide), ⟨nt_no (by decide), trivial⟩⟩⟩⟩⟩⟩⟩⟩⟩⟩⟩⟩⟩⟩⟩⟩⟩⟩) (by rw [hlen50]; exact trivial) (s_L_judged (ax (ax (ax (ax G (20, nn) q46) (20, nn) q47) (23, 4) qb) (23, 4) q491) D nn 50 a b μr hlen50 (by decide) hs45 hs46 hs47 (wf_gd hX50 hA50 ((GD.cg hD_36 (fun o h1 => (hFJ2.at (by omega) (by omega)))))) (LD.cg hLD (fun o h1 => ((hFJ2.at (by omega) (by omega)).trans ((hF36.at (by omega) (by omega)).trans ((hF491.at (by omega) (by omega)).trans ((hF407.at (by omega) (by omega)).trans ((hFJ1.at (by omega) (by omega)).trans (hF50.at (by omega) (by omega))))))))) (LW.cg hW50 (fun o h1 => ((hFJ2.at (by omega) (by omega)).trans ((hF36.at (by omega) (by omega)).trans ((hF491.at (by omega) (by omega)).trans ((hF407.at (by omega) (by omega)).trans (hFJ1.at (by omega) (by omega)))))))) (by omega)) (fun G610 r610 μ610 hp610 hx610 => ?_)
                                                                rcases hp610 with ⟨hna610, rfl, rfl, rfl⟩ | ⟨hal610, q610, rfl, rfl, hv610, ho610⟩
                                                                · skip
                                                                  refine Gx.cg (ls' := [(2, 0), (3, 13), (2, 45), (0, dN D), (2, 46), (2, 47), (0, bl), (0, br), (0, al), (2, 48), (0, st), (0, l9), (0, r9), (2, 49), (0, k), (0, a), (0, b), (9, 0)]) (st' := [(2, -1)]) (μ' := μr) ?_ rfl rfl rfl
                                                                  refine Gx.widen (cs2 := cc2 + 1) (ss2 := 4 * (cc2 + 1) + 64) (by omega) (by omega) ?_
                                                                  refine x_astoreN (ls' := [(2, 0), (3, 13), (2, 45), (0, dN D), (2, 46), (2, 47), (0, bl), (0, br), (0, al), (2, 48), (0, st), (0, l9), (0, r9), (2, 49), (0, k), (0, a), (0, b), (2, -1)]) dL_isBest_613 (Nat.le_of_ble_eq_true rfl) rfl rfl ?_
                                                                  refine x_iload dL_isBest_615 rfl ?_
                                                                  refine x_aloadN dL_isBest_617 rfl ?_
                                                                  refine x_ifnull_n (tgt := 662) dL_isBest_619 rfl ?_
                                                                  refine x_iconst dL_isBest_662 ?_
                                                                  refine x_iadd dL_isBest_663 ?_
                                                                  refine x_istore (ls' := [(2, 0), (3, 13), (2, 45), (0, dN D), (2, 46), (2, 47), (0, bl), (0, br), (0, al), (2, 48), (0, st), (0, l9), (0, r9), (2, 49), (0, k + 0), (0, a), (0, b), (2, -1)]) dL_isBest_664 (Nat.le_of_ble_eq_true rfl) rfl rfl ?_
                                                                  refine x_iinc (ls' := [(2, 0), (3, 13), (2, 45), (0, dN D), (2, 46), (2, 47), (0, bl), (0, br), (0, al), (2, 48), (0, st), (0, l9), (0, r9), (2, 49), (0, k + 0), (0, a), (0, b + 1), (2, -1)]) dL_isBest_666 rfl (Nat.le_of_ble_eq_true rfl) rfl rfl ?_
                                                                  refine x_goto (tgt := 585) dL_isBest_669 rfl ?_
                                                                  refine Gx.fgl (ls' := [(2, 0), (3, 13), (2, 45), (0, dN D), (2, 46), (2, 47), (0, bl), (0, br), (0, al), (2, 48), (0, st), (0, l9), (0, r9), (2, 49), (0, k + 0), (0, a), (0, b + 1), (9, 0)]) 17 rfl ?_
                                                                  exact (ihJ2 _ (by omega)).2.2.2.2.2 (k + 0) a (b + 1) (cc2 + 1) μr rfl hFJ2 (by omega) (by omega) (by first | (rw [@sN_beg _ a (by omega)]; exact hR) | (rw [@sN_n _ a (b + 1) (by omega) (by omega) (fun q9 => hna610 ((alwB_iff (by omega)).mp q9.2)), Int.add_zero]; exact hR) | (rw [@sN_y _ a (b + 1) (by omega) (by omega) (by omega) ((alwB_iff (by omega)).mpr hal610), cnB_s, ← hR]; first | (rw [if_pos c655]) | (rw [if_neg c655]) | (rw [if_neg (by rw [c626, c631]; exact Int.lt_irrefl _)]))) (by omega)
                                                                · skip
                                                                  refine Gx.cg (ls' := [(2, 0), (3, 13), (2, 45), (0, dN D), (2, 46), (2, 47), (0, bl), (0, br), (0, al), (2, 48), (0, st), (0, l9), (0, r9), (2, 49), (0, k), (0, a), (0, b), (9, 0)]) (st' := [(2, 50)]) (μ' := μ610) ?_ rfl rfl rfl
                                                                  refine Gx.widen (cs2 := cc2 + 1) (ss2 := 4 * (cc2 + 1) + 64) (by omega) (by omega) ?_
                                                                  have hF610 : Fr 50 50 1 0 μ610 μr := (fun o h1 h2 => ho610 o (by omega))
                                                                  have hJ610 : rowJ μ610 50 D a b := hv610
                                                                  have hlen51 : (gS (ax (ax (ax (ax (ax G (20, nn) q46) (20, nn) q47) (23, 4) qb) (23, 4) q491) (23, 4) q610)).length = 51 := (by rw [ax_len, hlen50])
                                                                  have hX51 : Xt (GG X) (ax (ax (ax (ax (ax G (20, nn) q46) (20, nn) q47) (23, 4) qb) (23, 4) q491) (23, 4) q610) := hX50.tr (Xt.ax (ax (ax (ax (ax G (20, nn) q46) (20, nn) q47) (23, 4) qb) (23, 4) q491) (23, 4) q610)
                                                                  have hA51 : ARR (ax (ax (ax (ax (ax G (20, nn) q46) (20, nn) q47) (23, 4) qb) (23, 4) q491) (23, 4) q610) := hA50.ax (Nat.le_of_ble_eq_true rfl)
                                                                  have hs45 := (Xt.ax (ax (ax (ax (ax G (20, nn) q46) (20, nn) q47) (23, 4) qb) (23, 4) q491) (23, 4) q610).sh hs45
                                                                  have hs46 := (Xt.ax (ax (ax (ax (ax G (20, nn) q46) (20, nn) q47) (23, 4) qb) (23, 4) q491) (23, 4) q610).sh hs46
                                                                  have hs47 := (Xt.ax (ax (ax (ax (ax G (20, nn) q46) (20, nn) q47) (23, 4) qb) (23, 4) q491) (23, 4) q610).sh hs47
                                                                  have hs48 := (Xt.ax (ax (ax (ax (ax G (20, nn) q46) (20, nn) q47) (23, 4) qb) (23, 4) q491) (23, 4) q610).sh hs48
                                                                  have hs49 := (Xt.ax (ax (ax (ax (ax G (20, nn) q46) (20, nn) q47) (23, 4) qb) (23, 4) q491) (23, 4) q610).sh hs49
                                                                  have hs50 : (gS (ax (ax (ax (ax (ax G (20, nn) q46) (20, nn) q47) (23, 4) qb) (23, 4) q491) (23, 4) q610))[50]? = some (23, 4) := (by have h9 := @ax_sh (ax (ax (ax (ax G (20, nn) q46) (20, nn) q47) (23, 4) qb) (23, 4) q491) (23, 4) q610; rw [hlen50] at h9; exact h9)
                                                                  refine x_astore (ls' := [(2, 0), (3, 13), (2, 45), (0, dN D), (2, 46), (2, 47), (0, bl), (0, br), (0, al), (2, 48), (0, st), (0, l9), (0, r9), (2, 49), (0, k), (0, a), (0, b), (2, 50)]) dL_isBest_613 (Nat.le_of_ble_eq_true rfl) rfl (by first | decide | omega) rfl ?_
                                                                  refine x_iload dL_isBest_615 rfl ?_
                                                                  refine x_aload dL_isBest_617 rfl (by first | decide | omega) ?_
                                                                  refine x_ifnull_r dL_isBest_619 (by omega) ?_
                                                                  refine x_iload dL_isBest_622 rfl ?_
                                                                  refine x_iload dL_isBest_624 rfl ?_
                                                                  refine x_icmp_ne (tgt := 636) dL_isBest_626 rfl (R32.in (by omega)) (R32.in (by omega)) (fun c626 => ?_) (fun c626 => ?_)
                                                                  · skip
                                                                    refine x_aload dL_isBest_636 rfl (by first | decide | omega) ?_
                                                                    refine x_iload dL_isBest_638 rfl ?_
                                                                    refine x_iload dL_isBest_640 rfl ?_
                                                                    refine x_aload dL_isBest_642 rfl (by first | decide | omega) ?_
                                                                    refine x_iload dL_isBest_644 rfl ?_
                                                                    refine x_iload dL_isBest_646 rfl ?_
                                                                    refine x_aload dL_isBest_648 rfl (by first | decide | omega) ?_
                                                                    refine x_iconst dL_isBest_650 ?_
                                                                    refine x_ialdx (o := 47) (n := nn) (x := way D 0) dL_isBest_651 rfl hs47 (by omega) (by omega) ((congrFun (hF610.at (by omega) (by omega)) _).trans ((congrFun (hFJ2.at (by omega) (by omega)) _).trans ((congrFun (hF36.at (by omega) (by omega)) _).trans ((congrFun (hF491.at (by omega) (by omega)) _).trans ((congrFun (hF407.at (by omega) (by omega)) _).trans ((congrFun (hFJ1.at (by omega) (by omega)) _).trans (hW50 _ (by omega) (by omega)))))))) ?_
                                                                    have hr40 := way_b D 0
                                                                    refine x_callSP (as := [(2, 50), (0, a), (0, b), (2, 49), (0, l9), (0, r9), (0, way D 0)]) (rest := [(0, k)]) (k := 4) fL_isBest_652.g ⟨Nat.le_of_ble_eq_true rfl, Nat.le_of_ble_eq_true rfl⟩ ⟨show cc2 + 1 ≤ 30000 by omega, show 4 * (cc2 + 1) + 64 ≤ 130000 by omega⟩ xK_A (wf_gd hX51 hA51 ((GD.cg hD_36 (fun o h1 => ((hF610.at (by omega) (by omega)).trans (hFJ2.at (by omega) (by omega))))))) rfl rfl rfl rfl rfl (Nat.le_of_ble_eq_true rfl) ⟨fun _ => (by omega), ⟨nt_no (by decide), ⟨nt_no (by decide), ⟨fun _ => (by omega), ⟨nt_no (by decide), ⟨nt_no (by decide), ⟨nt_no (by decide), trivial⟩⟩⟩⟩⟩⟩⟩ (by decide) (show Wp (ax (ax (ax (ax (ax G (20, nn) q46) (20, nn) q47) (23, 4) qb) (23, 4) q491) (23, 4) q610) M_L_isAhead 0 [(2, 50), (0, a), (0, b), (2, 49), (0, l9), (0, r9), (0, way D 0), (9, 0), (9, 0), (9, 0), (9, 0)] [] μ610 (pP 0 (am_b (keyq D (a, b) < keyq D (l9, r9))) μ610) from (s_L_isAheadJ50 (ax (ax (ax (ax (ax G (20, nn) q46) (20, nn) q47) (23, 4) qb) (23, 4) q491) (23, 4) q610) D a b l9 r9 μ610 hok hs50 hs49 hJ610 (rowJ.cg hJ491 (fun o h1 => ((hF610.at (by omega) (by omega)).trans ((hFJ2.at (by omega) (by omega)).trans (hF36.at (by omega) (by omega)))))) hal610 hal491 (by omega) (by omega))) ?_
                                                                    have hf41 := am_b_r (keyq D (a, b) < keyq D (l9, r9))
                                                                    refine x_if_eq (tgt := 662) dL_isBest_655 rfl (R32.in (by have := am_b_r ((keyq D (a, b) < keyq D (l9, r9))); omega)) (fun c655 => ?_) (fun c655 => ?_)
                                                                    · skip
                                                                      replace c655 := am_b0 c655
                                                                      refine x_iconst dL_isBest_662 ?_
                                                                      refine x_iadd dL_isBest_663 ?_
                                                                      refine x_istore (ls' := [(2, 0), (3, 13), (2, 45), (0, dN D), (2, 46), (2, 47), (0, bl), (0, br), (0, al), (2, 48), (0, st), (0, l9), (0, r9), (2, 49), (0, k + 0), (0, a), (0, b), (2, 50)]) dL_isBest_664 (Nat.le_of_ble_eq_true rfl) rfl rfl ?_
                                                                      refine x_iinc (ls' := [(2, 0), (3, 13), (2, 45), (0, dN D), (2, 46), (2, 47), (0, bl), (0, br), (0, al), (2, 48), (0, st), (0, l9), (0, r9), (2, 49), (0, k + 0), (0, a), (0, b + 1), (2, 50)]) dL_isBest_666 rfl (Nat.le_of_ble_eq_true rfl) rfl rfl ?_
                                                                      refine x_goto (tgt := 585) dL_isBest_669 rfl ?_
                                                                      refine Gx.fgl (ls' := [(2, 0), (3, 13), (2, 45), (0, dN D), (2, 46), (2, 47), (0, bl), (0, br), (0, al), (2, 48), (0, st), (0, l9), (0, r9), (2, 49), (0, k + 0), (0, a), (0, b + 1), (9, 0)]) 17 rfl ?_
                                                                      refine Gx.drop (wf_gd hX50 hA50 ((GD.cg hD_36 (fun o h1 => ((hF610.at (by omega) (by omega)).trans (hFJ2.at (by omega) (by omega))))))) (by rw [hlen50]; exact ⟨fun _ => (by omega), ⟨nt_no (by decide), ⟨fun _ => (by omega), ⟨nt_no (by decide), ⟨fun _ => (by omega), ⟨fun _ => (by omega), ⟨nt_no (by decide), ⟨nt_no (by decide), ⟨nt_no (by decide), ⟨fun _ => (by omega), ⟨nt_no (by decide), ⟨nt_no (by decide), ⟨nt_no (by decide), ⟨fun _ => (by omega), ⟨nt_no (by decide), ⟨nt_no (by decide), ⟨nt_no (by decide), ⟨nt_no (by decide), trivial⟩⟩⟩⟩⟩⟩⟩⟩⟩⟩⟩⟩⟩⟩⟩⟩⟩⟩) (by rw [hlen50]; exact trivial) ?_
                                                                      exact (ihJ2 _ (by omega)).2.2.2.2.2 (k + 0) a (b + 1) (cc2 + 1) μ610 rfl ((hF610.wd (by omega) (by omega)).tr hFJ2) (by omega) (by omega) (by first | (rw [@sN_beg _ a (by omega)]; exact hR) | (rw [@sN_n _ a (b + 1) (by omega) (by omega) (fun q9 => hna610 ((alwB_iff (by omega)).mp q9.2)), Int.add_zero]; exact hR) | (rw [@sN_y _ a (b + 1) (by omega) (by omega) (by omega) ((alwB_iff (by omega)).mpr hal610), cnB_s, ← hR]; first | (rw [if_pos c655]) | (rw [if_neg c655]) | (rw [if_neg (by rw [c626, c631]; exact Int.lt_irrefl _)]))) (by omega)
                                                                    · skip
                                                                      replace c655 := am_b1 c655
                                                                      refine x_iconst dL_isBest_658 ?_
                                                                      refine x_goto (tgt := 663) dL_isBest_659 rfl ?_
                                                                      refine x_iadd dL_isBest_663 ?_
                                                                      refine x_istore (ls' := [(2, 0), (3, 13), (2, 45), (0, dN D), (2, 46), (2, 47), (0, bl), (0, br), (0, al), (2, 48), (0, st), (0, l9), (0, r9), (2, 49), (0, k + 1), (0, a), (0, b), (2, 50)]) dL_isBest_664 (Nat.le_of_ble_eq_true rfl) rfl rfl ?_
                                                                      refine x_iinc (ls' := [(2, 0), (3, 13), (2, 45), (0, dN D), (2, 46), (2, 47), (0, bl), (0, br), (0, al), (2, 48), (0, st), (0, l9), (0, r9), (2, 49), (0, k + 1), (0, a), (0, b + 1), (2, 50)]) dL_isBest_666 rfl (Nat.le_of_ble_eq_true rfl) rfl rfl ?_
                                                                      refine x_goto (tgt := 585) dL_isBest_669 rfl ?_
                                                                      refine Gx.fgl (ls' := [(2, 0), (3, 13), (2, 45), (0, dN D), (2, 46), (2, 47), (0, bl), (0, br), (0, al), (2, 48), (0, st), (0, l9), (0, r9), (2, 49), (0, k + 1), (0, a), (0, b + 1), (9, 0)]) 17 rfl ?_
                                                                      refine Gx.drop (wf_gd hX50 hA50 ((GD.cg hD_36 (fun o h1 => ((hF610.at (by omega) (by omega)).trans (hFJ2.at (by omega) (by omega))))))) (by rw [hlen50]; exact ⟨fun _ => (by omega), ⟨nt_no (by decide), ⟨fun _ => (by omega), ⟨nt_no (by decide), ⟨fun _ => (by omega), ⟨fun _ => (by omega), ⟨nt_no (by decide), ⟨nt_no (by decide), ⟨nt_no (by decide), ⟨fun _ => (by omega), ⟨nt_no (by decide), ⟨nt_no (by decide), ⟨nt_no (by decide), ⟨fun _ => (by omega), ⟨nt_no (by decide), ⟨nt_no (by decide), ⟨nt_no (by decide), ⟨nt_no (by decide), trivial⟩⟩⟩⟩⟩⟩⟩⟩⟩⟩⟩⟩⟩⟩⟩⟩⟩⟩) (by rw [hlen50]; exact trivial) ?_
                                                                      exact (ihJ2 _ (by omega)).2.2.2.2.2 (k + 1) a (b + 1) (cc2 + 1) μ610 rfl ((hF610.wd (by omega) (by omega)).tr hFJ2) (by omega) (by omega) (by first | (rw [@sN_beg _ a (by omega)]; exact hR) | (rw [@sN_n _ a (b + 1) (by omega) (by omega) (fun q9 => hna610 ((alwB_iff (by omega)).mp q9.2)), Int.add_zero]; exact hR) | (rw [@sN_y _ a (b + 1) (by omega) (by omega) (by omega) ((alwB_iff (by omega)).mpr hal610), cnB_s, ← hR]; first | (rw [if_pos c655]) | (rw [if_neg c655]) | (rw [if_neg (by rw [c626, c631]; exact Int.lt_irrefl _)]))) (by omega)
                                                                  · skip
                                                                    refine x_iload dL_isBest_629 rfl ?_
                                                                    refine x_iload dL_isBest_631 rfl ?_
                                                                    refine x_icmp_eq (tgt := 662) dL_isBest_633 rfl (R32.in (by omega)) (R32.in (by omega)) (fun c633 => ?_) (fun c633 => ?_)
                                                                    · skip
                                                                      refine x_iconst dL_isBest_662 ?_
                                                                      refine x_iadd dL_isBest_663 ?_
                                                                      refine x_istore (ls' := [(2, 0), (3, 13), (2, 45), (0, dN D), (2, 46), (2, 47), (0, bl), (0, br), (0, al), (2, 48), (0, st), (0, l9), (0, r9), (2, 49), (0, k + 0), (0, a), (0, b), (2, 50)]) dL_isBest_664 (Nat.le_of_ble_eq_true rfl) rfl rfl ?_
                                                                      refine x_iinc (ls' := [(2, 0), (3, 13), (2, 45), (0, dN D), (2, 46), (2, 47), (0, bl), (0, br), (0, al), (2, 48), (0, st), (0, l9), (0, r9), (2, 49), (0, k + 0), (0, a), (0, b + 1), (2, 50)]) dL_isBest_666 rfl (Nat.le_of_ble_eq_true rfl) rfl rfl ?_
                                                                      refine x_goto (tgt := 585) dL_isBest_669 rfl ?_
                                                                      refine Gx.fgl (ls' := [(2, 0), (3, 13), (2, 45), (0, dN D), (2, 46), (2, 47), (0, bl), (0, br), (0, al), (2, 48), (0, st), (0, l9), (0, r9), (2, 49), (0, k + 0), (0, a), (0, b + 1), (9, 0)]) 17 rfl ?_
                                                                      refine Gx.drop (wf_gd hX50 hA50 ((GD.cg hD_36 (fun o h1 => ((hF610.at (by omega) (by omega)).trans (hFJ2.at (by omega) (by omega))))))) (by rw [hlen50]; exact ⟨fun _ => (by omega), ⟨nt_no (by decide), ⟨fun _ => (by omega), ⟨nt_no (by decide), ⟨fun _ => (by omega), ⟨fun _ => (by omega), ⟨nt_no (by decide), ⟨nt_no (by decide), ⟨nt_no (by decide), ⟨fun _ => (by omega), ⟨nt_no (by decide), ⟨nt_no (by decide), ⟨nt_no (by decide), ⟨fun _ => (by omega), ⟨nt_no (by decide), ⟨nt_no (by decide), ⟨nt_no (by decide), ⟨nt_no (by decide), trivial⟩⟩⟩⟩⟩⟩⟩⟩⟩⟩⟩⟩⟩⟩⟩⟩⟩⟩) (by rw [hlen50]; exact trivial) ?_
                                                                      exact (ihJ2 _ (by omega)).2.2.2.2.2 (k + 0) a (b + 1) (cc2 + 1) μ610 rfl ((hF610.wd (by omega) (by omega)).tr hFJ2) (by omega) (by omega) (by first | (rw [@sN_beg _ a (by omega)]; exact hR) | (rw [@sN_n _ a (b + 1) (by omega) (by omega) (fun q9 => hna610 ((alwB_iff (by omega)).mp q9.2)), Int.add_zero]; exact hR) | (rw [@sN_y _ a (b + 1) (by omega) (by omega) (by omega) ((alwB_iff (by omega)).mpr hal610), cnB_s, ← hR]; first | (rw [if_pos c655]) | (rw [if_neg c655]) | (rw [if_neg (by rw [c626, c631]; exact Int.lt_irrefl _)]))) (by omega)
                                                                    · skip
                                                                      refine x_aload dL_isBest_636 rfl (by first | decide | omega) ?_
                                                                      refine x_iload dL_isBest_638 rfl ?_
                                                                      refine x_iload dL_isBest_640 rfl ?_
                                                                      refine x_aload dL_isBest_642 rfl (by first | decide | omega) ?_
                                                                      refine x_iload dL_isBest_644 rfl ?_
                                                                      refine x_iload dL_isBest_646 rfl ?_
                                                                      refine x_aload dL_isBest_648 rfl (by first | decide | omega) ?_
                                                                      refine x_iconst dL_isBest_650 ?_
                                                                      refine x_ialdx (o := 47) (n := nn) (x := way D 0) dL_isBest_651 rfl hs47 (by omega) (by omega) ((congrFun (hF610.at (by omega) (by omega)) _).trans ((congrFun (hFJ2.at (by omega) (by omega)) _).trans ((congrFun (hF36.at (by omega) (by omega)) _).trans ((congrFun (hF491.at (by omega) (by omega)) _).trans ((congrFun (hF407.at (by omega) (by omega)) _).trans ((congrFun (hFJ1.at (by omega) (by omega)) _).trans (hW50 _ (by omega) (by omega)))))))) ?_
                                                                      have hr42 := way_b D 0
                                                                      refine x_callSP (as := [(2, 50), (0, a), (0, b), (2, 49), (0, l9), (0, r9), (0, way D 0)]) (rest := [(0, k)]) (k := 4) fL_isBest_652.g ⟨Nat.le_of_ble_eq_true rfl, Nat.le_of_ble_eq_true rfl⟩ ⟨show cc2 + 1 ≤ 30000 by omega, show 4 * (cc2 + 1) + 64 ≤ 130000 by omega⟩ xK_A (wf_gd hX51 hA51 ((GD.cg hD_36 (fun o h1 => ((hF610.at (by omega) (by omega)).trans (hFJ2.at (by omega) (by omega))))))) rfl rfl rfl rfl rfl (Nat.le_of_ble_eq_true rfl) ⟨fun _ => (by omega), ⟨nt_no (by decide), ⟨nt_no (by decide), ⟨fun _ => (by omega), ⟨nt_no (by decide), ⟨nt_no (by decide), ⟨nt_no (by decide), trivial⟩⟩⟩⟩⟩⟩⟩ (by decide) (show Wp (ax (ax (ax (ax (ax G (20, nn) q46) (20, nn) q47) (23, 4) qb) (23, 4) q491) (23, 4) q610) M_L_isAhead 0 [(2, 50), (0, a), (0, b), (2, 49), (0, l9), (0, r9), (0, way D 0), (9, 0), (9, 0), (9, 0), (9, 0)] [] μ610 (pP 0 (am_b (keyq D (a, b) < keyq D (l9, r9))) μ610) from (s_L_isAheadJ50 (ax (ax (ax (ax (ax G (20, nn) q46) (20, nn) q47) (23, 4) qb) (23, 4) q491) (23, 4) q610) D a b l9 r9 μ610 hok hs50 hs49 hJ610 (rowJ.cg hJ491 (fun o h1 => ((hF610.at (by omega) (by omega)).trans ((hFJ2.at (by omega) (by omega)).trans (hF36.at (by omega) (by omega)))))) hal610 hal491 (by omega) (by omega))) ?_
                                                                      have hf43 := am_b_r (keyq D (a, b) < keyq D (l9, r9))
                                                                      refine x_if_eq (tgt := 662) dL_isBest_655 rfl (R32.in (by have := am_b_r ((keyq D (a, b) < keyq D (l9, r9))); omega)) (fun c655 => ?_) (fun c655 => ?_)
                                                                      · skip
                                                                        replace c655 := am_b0 c655
                                                                        refine x_iconst dL_isBest_662 ?_
                                                                        refine x_iadd dL_isBest_663 ?_
                                                                        refine x_istore (ls' := [(2, 0), (3, 13), (2, 45), (0, dN D), (2, 46), (2, 47), (0, bl), (0, br), (0, al), (2, 48), (0, st), (0, l9), (0, r9), (2, 49), (0, k + 0), (0, a), (0, b), (2, 50)]) dL_isBest_664 (Nat.le_of_ble_eq_true rfl) rfl rfl ?_
                                                                        refine x_iinc (ls' := [(2, 0), (3, 13), (2, 45), (0, dN D), (2, 46), (2, 47), (0, bl), (0, br), (0, al), (2, 48), (0, st), (0, l9), (0, r9), (2, 49), (0, k + 0), (0, a), (0, b + 1), (2, 50)]) dL_isBest_666 rfl (Nat.le_of_ble_eq_true rfl) rfl rfl ?_
                                                                        refine x_goto (tgt := 585) dL_isBest_669 rfl ?_
                                                                        refine Gx.fgl (ls' := [(2, 0), (3, 13), (2, 45), (0, dN D), (2, 46), (2, 47), (0, bl), (0, br), (0, al), (2, 48), (0, st), (0, l9), (0, r9), (2, 49), (0, k + 0), (0, a), (0, b + 1), (9, 0)]) 17 rfl ?_
                                                                        refine Gx.drop (wf_gd hX50 hA50 ((GD.cg hD_36 (fun o h1 => ((hF610.at (by omega) (by omega)).trans (hFJ2.at (by omega) (by omega))))))) (by rw [hlen50]; exact ⟨fun _ => (by omega), ⟨nt_no (by decide), ⟨fun _ => (by omega), ⟨nt_no (by decide), ⟨fun _ => (by omega), ⟨fun _ => (by omega), ⟨nt_no (by decide), ⟨nt_no (by decide), ⟨nt_no (by decide), ⟨fun _ => (by omega), ⟨nt_no (by decide), ⟨nt_no (by decide), ⟨nt_no (by decide), ⟨fun _ => (by omega), ⟨nt_no (by decide), ⟨nt_no (by decide), ⟨nt_no (by decide), ⟨nt_no (by decide), trivial⟩⟩⟩⟩⟩⟩⟩⟩⟩⟩⟩⟩⟩⟩⟩⟩⟩⟩) (by rw [hlen50]; exact trivial) ?_
                                                                        exact (ihJ2 _ (by omega)).2.2.2.2.2 (k + 0) a (b + 1) (cc2 + 1) μ610 rfl ((hF610.wd (by omega) (by omega)).tr hFJ2) (by omega) (by omega) (by first | (rw [@sN_beg _ a (by omega)]; exact hR) | (rw [@sN_n _ a (b + 1) (by omega) (by omega) (fun q9 => hna610 ((alwB_iff (by omega)).mp q9.2)), Int.add_zero]; exact hR) | (rw [@sN_y _ a (b + 1) (by omega) (by omega) (by omega) ((alwB_iff (by omega)).mpr hal610), cnB_s, ← hR]; first | (rw [if_pos c655]) | (rw [if_neg c655]) | (rw [if_neg (by rw [c626, c631]; exact Int.lt_irrefl _)]))) (by omega)
                                                                      · skip
                                                                        replace c655 := am_b1 c655
                                                                        refine x_iconst dL_isBest_658 ?_
                                                                        refine x_goto (tgt := 663) dL_isBest_659 rfl ?_
                                                                        refine x_iadd dL_isBest_663 ?_
                                                                        refine x_istore (ls' := [(2, 0), (3, 13), (2, 45), (0, dN D), (2, 46), (2, 47), (0, bl), (0, br), (0, al), (2, 48), (0, st), (0, l9), (0, r9), (2, 49), (0, k + 1), (0, a), (0, b), (2, 50)]) dL_isBest_664 (Nat.le_of_ble_eq_true rfl) rfl rfl ?_
                                                                        refine x_iinc (ls' := [(2, 0), (3, 13), (2, 45), (0, dN D), (2, 46), (2, 47), (0, bl), (0, br), (0, al), (2, 48), (0, st), (0, l9), (0, r9), (2, 49), (0, k + 1), (0, a), (0, b + 1), (2, 50)]) dL_isBest_666 rfl (Nat.le_of_ble_eq_true rfl) rfl rfl ?_
                                                                        refine x_goto (tgt := 585) dL_isBest_669 rfl ?_
                                                                        refine Gx.fgl (ls' := [(2, 0), (3, 13), (2, 45), (0, dN D), (2, 46), (2, 47), (0, bl), (0, br), (0, al), (2, 48), (0, st), (0, l9), (0, r9), (2, 49), (0, k + 1), (0, a), (0, b + 1), (9, 0)]) 17 rfl ?_
                                                                        refine Gx.drop (wf_gd hX50 hA50 ((GD.cg hD_36 (fun o h1 => ((hF610.at (by omega) (by omega)).trans (hFJ2.at (by omega) (by omega))))))) (by rw [hlen50]; exact ⟨fun _ => (by omega), ⟨nt_no (by decide), ⟨fun _ => (by omega), ⟨nt_no (by decide), ⟨fun _ => (by omega), ⟨fun _ => (by omega), ⟨nt_no (by decide), ⟨nt_no (by decide), ⟨nt_no (by decide), ⟨fun _ => (by omega), ⟨nt_no (by decide), ⟨nt_no (by decide), ⟨nt_no (by decide), ⟨fun _ => (by omega), ⟨nt_no (by decide), ⟨nt_no (by decide), ⟨nt_no (by decide), ⟨nt_no (by decide), trivial⟩⟩⟩⟩⟩⟩⟩⟩⟩⟩⟩⟩⟩⟩⟩⟩⟩⟩) (by rw [hlen50]; exact trivial) ?_
                                                                        exact (ihJ2 _ (by omega)).2.2.2.2.2 (k + 1) a (b + 1) (cc2 + 1) μ610 rfl ((hF610.wd (by omega) (by omega)).tr hFJ2) (by omega) (by omega) (by first | (rw [@sN_beg _ a (by omega)]; exact hR) | (rw [@sN_n _ a (b + 1) (by omega) (by omega) (fun q9 => hna610 ((alwB_iff (by omega)).mp q9.2)), Int.add_zero]; exact hR) | (rw [@sN_y _ a (b + 1) (by omega) (by omega) (by omega) ((alwB_iff (by omega)).mpr hal610), cnB_s, ← hR]; first | (rw [if_pos c655]) | (rw [if_neg c655]) | (rw [if_neg (by rw [c626, c631]; exact Int.lt_irrefl _)]))) (by omega)
                                                        exact (hJ2 _).2.2.2.2 0 (-60) (cs9 + 1) μ_36 rfl Fr.rf (by omega) rfl (by omega)
                                                      · skip
                                                        exact c533 hu9
                                                  · skip
                                                    refine x_goto (tgt := 720) dL_isBest_478 rfl ?_
                                                    refine x_iinc (ls' := [(2, 0), (3, 13), (2, 45), (0, dN D), (2, 46), (2, 47), (0, bl), (0, br), (0, al), (2, 48), (0, st + 1), (0, l9), (0, r9), (9, 0), (9, 0), (9, 0), (9, 0), (9, 0)]) dL_isBest_720 rfl (Nat.le_of_ble_eq_true rfl) rfl rfl ?_
                                                    refine x_goto (tgt := 407) dL_isBest_723 rfl ?_
                                                    refine Gx.fgl (ls' := [(2, 0), (3, 13), (2, 45), (0, dN D), (2, 46), (2, 47), (0, bl), (0, br), (0, al), (2, 48), (0, st + 1), (9, 0), (0, r9), (9, 0), (9, 0), (9, 0), (9, 0), (9, 0)]) 11 rfl ?_
                                                    refine Gx.fgl (ls' := [(2, 0), (3, 13), (2, 45), (0, dN D), (2, 46), (2, 47), (0, bl), (0, br), (0, al), (2, 48), (0, st + 1), (9, 0), (9, 0), (9, 0), (9, 0), (9, 0), (9, 0), (9, 0)]) 12 rfl ?_
                                                    exact ih407 _ (by omega) (st + 1) cs9 μs rfl hF407 (by first | omega | assumption) (by first | omega | assumption)
                                          exact hL407 _ 0 cc μ_28 rfl ((hF28.wd (by omega) (by omega)).tr ((hF27.wd (by omega) (by omega)).tr ((hF26.wd (by omega) (by omega)).tr ((hF25.wd (by omega) (by omega)).tr ((hF24.wd (by omega) (by omega)).tr ((hF23.wd (by omega) (by omega)).tr ((hF22.wd (by omega) (by omega)).tr ((hF19.wd (by omega) (by omega)).tr ((hF18.wd (by omega) (by omega)).tr (hF188.wd (by omega) (by omega))))))))))) (by first | omega | assumption) (by first | omega | assumption)
                                        · skip
                                          exact c399 hb2
                            · skip
                              omega
                      · skip
                        replace c240 := am_b1 c240
                        refine x_iconst dL_isBest_243 ?_
                        refine x_goto (tgt := 248) dL_isBest_244 rfl ?_
                        refine x_icmp_ne (tgt := 277) dL_isBest_248 rfl (R32.in (by omega)) (R32.in (by decide)) (fun c248 => ?_) (fun c248 => ?_)
                        · skip
                          rw [hg2, am_b, if_pos c240] at c248; exact c248 rfl
                        · skip
                          refine x_aload_n dL_isBest_251 rfl rfl (by first | decide | omega) ?_
                          refine x_iconst dL_isBest_252 ?_
                          refine x_iconst dL_isBest_253 ?_
                          refine x_callVI (o := 0) (ci := 7) (as := [(0, 0), (0, 3)]) (rest := []) (k := 0) (Gs := GG X) fL_isBest_254.g ⟨Nat.le_of_ble_eq_true rfl, Nat.le_of_ble_eq_true rfl⟩ ⟨show cc ≤ 30000 by omega, show 4 * (cc) + 64 ≤ 130000 by omega⟩ xK_A hX49 (wf_gd Xt.rf ARR_GG (hD_18)) rfl rfl rfl rfl rfl rfl rfl rfl (Nat.le_of_ble_eq_true rfl) ⟨nt_no (by decide), ⟨nt_no (by decide), trivial⟩⟩ (by decide) (q_group X p D nn 3 μ_18 hD_18 (by first | omega | assumption)) (fun x9 μ9 h9 => ⟨wf_gd Xt.rf ARR_GG h9.2.1, fun o ho => h9.1.at (by have h8 : (45 : Int) ≤ o := ho; omega) (by have h8 : (45 : Int) ≤ o := ho; omega)⟩) (fun x44 μ_44 hμ44 => ?_)
                          obtain ⟨hF44, hD_44, hz_44⟩ := hμ44
                          have hg3 : x44 = dX D (dN D - 1) := hz_44
                          refine x_aload dL_isBest_257 rfl (by first | decide | omega) ?_
                          refine x_iload_n dL_isBest_259 rfl rfl ?_
                          refine x_iconst dL_isBest_260 ?_
                          refine x_isub dL_isBest_261 ?_
                          refine x_ialdx (o := 46) (n := nn) (x := dX D ((dN D) - 1)) dL_isBest_262 rfl hs46 (by omega) (by omega) ((congrFun (hF44.at (by omega) (by omega)) _).trans ((congrFun (hF18.at (by omega) (by omega)) _).trans ((congrFun (hF188.at (by omega) (by omega)) _).trans ((congrFun (hFJ1.at (by omega) (by omega)) _).trans ((congrFun (hF50.at (by omega) (by omega)) _).trans (hLD.x (by omega))))))) ?_
                          have hr45 := (hLD.ok).xs (i := ((dN D) - 1)) (by omega)
                          have hr46 := hok.xs (i := ((dN D) - 1)) (by omega)
                          refine x_icmp_ne (tgt := 277) dL_isBest_263 rfl (R32.in (by omega)) (R32.in (by omega)) (fun c263 => ?_) (fun c263 => ?_)
                          · skip
                            exact c263 hg3
                          · skip
                            refine x_aload_n dL_isBest_266 rfl rfl (by first | decide | omega) ?_
                            refine x_iconst dL_isBest_267 ?_
                            refine x_iconst dL_isBest_268 ?_
                            refine x_callVI (o := 0) (ci := 7) (as := [(0, 0), (0, 5)]) (rest := []) (k := 0) (Gs := GG X) fL_isBest_269.g ⟨Nat.le_of_ble_eq_true rfl, Nat.le_of_ble_eq_true rfl⟩ ⟨show cc ≤ 30000 by omega, show 4 * (cc) + 64 ≤ 130000 by omega⟩ xK_A hX49 (wf_gd Xt.rf ARR_GG (hD_44)) rfl rfl rfl rfl rfl rfl rfl rfl (Nat.le_of_ble_eq_true rfl) ⟨nt_no (by decide), ⟨nt_no (by decide), trivial⟩⟩ (by decide) (q_group X p D nn 5 μ_44 hD_44 (by first | omega | assumption)) (fun x9 μ9 h9 => ⟨wf_gd Xt.rf ARR_GG h9.2.1, fun o ho => h9.1.at (by have h8 : (45 : Int) ≤ o := ho; omega) (by have h8 : (45 : Int) ≤ o := ho; omega)⟩) (fun x47 μ_47 hμ47 => ?_)
                            obtain ⟨hF47, hD_47, hz_47⟩ := hμ47
                            have hg5 : x47 = cnD D := hz_47
                            have hg6 := hE.1
                            refine x_iload dL_isBest_272 rfl ?_
                            refine x_icmp_eq (tgt := 279) dL_isBest_274 rfl (R32.in (by omega)) (R32.in (by omega)) (fun c274 => ?_) (fun c274 => ?_)
                            · skip
                              refine x_aload dL_isBest_279 rfl (by first | decide | omega) ?_
                              refine x_ifnonnull_r (tgt := 310) dL_isBest_281 rfl (by omega) ?_
                              refine x_aload_n dL_isBest_310 rfl rfl (by first | decide | omega) ?_
                              refine x_iconst dL_isBest_311 ?_
                              refine x_iconst dL_isBest_312 ?_
                              refine x_callVI (o := 0) (ci := 7) (as := [(0, 0), (0, 0)]) (rest := []) (k := 0) (Gs := GG X) fL_isBest_313.g ⟨Nat.le_of_ble_eq_true rfl, Nat.le_of_ble_eq_true rfl⟩ ⟨show cc ≤ 30000 by omega, show 4 * (cc) + 64 ≤ 130000 by omega⟩ xK_A hX49 (wf_gd Xt.rf ARR_GG (hD_47)) rfl rfl rfl rfl rfl rfl rfl rfl (Nat.le_of_ble_eq_true rfl) ⟨nt_no (by decide), ⟨nt_no (by decide), trivial⟩⟩ (by decide) (q_best X p D nn 0 μ_47 hD_47 (by first | omega | assumption)) (fun x9 μ9 h9 => ⟨wf_gd Xt.rf ARR_GG h9.2.1, fun o ho => h9.1.at (by have h8 : (45 : Int) ≤ o := ho; omega) (by have h8 : (45 : Int) ≤ o := ho; omega)⟩) (fun x48 μ_48 hμ48 => ?_)
                              obtain ⟨hF48, hD_48, hz_48⟩ := hμ48
                              have hb0 : x48 = bl := (by rw [hz_48]; unfold ansB; rw [if_neg hE.2.1, hE.2.2.1, hE.2.2.2.1]; rw [← hE.2.2.1]; rfl)
                              refine x_iload dL_isBest_316 rfl ?_
                              refine x_icmp_ne (tgt := 402) dL_isBest_318 rfl (R32.in (by omega)) (R32.in (by omega)) (fun c318 => ?_) (fun c318 => ?_)
                              · skip
                                omega
                              · skip
                                refine x_aload_n dL_isBest_321 rfl rfl (by first | decide | omega) ?_
                                refine x_iconst dL_isBest_322 ?_
                                refine x_iconst dL_isBest_323 ?_
                                refine x_callVI (o := 0) (ci := 7) (as := [(0, 0), (0, 1)]) (rest := []) (k := 0) (Gs := GG X) fL_isBest_324.g ⟨Nat.le_of_ble_eq_true rfl, Nat.le_of_ble_eq_true rfl⟩ ⟨show cc ≤ 30000 by omega, show 4 * (cc) + 64 ≤ 130000 by omega⟩ xK_A hX49 (wf_gd Xt.rf ARR_GG (hD_48)) rfl rfl rfl rfl rfl rfl rfl rfl (Nat.le_of_ble_eq_true rfl) ⟨nt_no (by decide), ⟨nt_no (by decide), trivial⟩⟩ (by decide) (q_best X p D nn 1 μ_48 hD_48 (by first | omega | assumption)) (fun x9 μ9 h9 => ⟨wf_gd Xt.rf ARR_GG h9.2.1, fun o ho => h9.1.at (by have h8 : (45 : Int) ≤ o := ho; omega) (by have h8 : (45 : Int) ≤ o := ho; omega)⟩) (fun x49 μ_49 hμ49 => ?_)
                                obtain ⟨hF49, hD_49, hz_49⟩ := hμ49
                                have hb1 : x49 = br := (by rw [hz_49]; unfold ansB; rw [if_neg hE.2.1, hE.2.2.1, hE.2.2.2.1]; rw [← hE.2.2.1, ← hE.2.2.2.1]; show bl + (br - bl) = br; omega)
                                refine x_iload dL_isBest_327 rfl ?_
                                refine x_icmp_ne (tgt := 402) dL_isBest_329 rfl (R32.in (by omega)) (R32.in (by omega)) (fun c329 => ?_) (fun c329 => ?_)
                                · skip
                                  omega
                                · skip
                                  refine x_aload_n dL_isBest_332 rfl rfl (by first | decide | omega) ?_
                                  refine x_iconst dL_isBest_333 ?_
                                  refine x_iconst dL_isBest_334 ?_
                                  refine x_callVI (o := 0) (ci := 7) (as := [(0, 0), (0, 3)]) (rest := []) (k := 0) (Gs := GG X) fL_isBest_335.g ⟨Nat.le_of_ble_eq_true rfl, Nat.le_of_ble_eq_true rfl⟩ ⟨show cc ≤ 30000 by omega, show 4 * (cc) + 64 ≤ 130000 by omega⟩ xK_A hX49 (wf_gd Xt.rf ARR_GG (hD_49)) rfl rfl rfl rfl rfl rfl rfl rfl (Nat.le_of_ble_eq_true rfl) ⟨nt_no (by decide), ⟨nt_no (by decide), trivial⟩⟩ (by decide) (q_best X p D nn 3 μ_49 hD_49 (by first | omega | assumption)) (fun x9 μ9 h9 => ⟨wf_gd Xt.rf ARR_GG h9.2.1, fun o ho => h9.1.at (by have h8 : (45 : Int) ≤ o := ho; omega) (by have h8 : (45 : Int) ≤ o := ho; omega)⟩) (fun x50 μ_50 hμ50 => ?_)
                                  obtain ⟨hF50, hD_50, hz_50⟩ := hμ50
                                  have hb3 : x50 = stm D (br - bl) bl := (by rw [hz_50]; unfold ansB; rw [if_neg hE.2.1, hE.2.2.1, hE.2.2.2.1]; rw [← hE.2.2.1, ← hE.2.2.2.1]; rfl)
                                  refine x_i2l dL_isBest_338 (R32.in (by omega)) ?_
                                  refine x_aload dL_isBest_339 rfl (by first | decide | omega) ?_
                                  refine x_iconst dL_isBest_341 ?_
                                  refine x_laldx (o := 48) (n := 4) (x := stm D (br - bl) bl) dL_isBest_342 rfl hs48 (Nat.le_of_ble_eq_true rfl) (by omega) ((congrFun (hF50.at (by omega) (by omega)) _).trans ((congrFun (hF49.at (by omega) (by omega)) _).trans ((congrFun (hF48.at (by omega) (by omega)) _).trans ((congrFun (hF47.at (by omega) (by omega)) _).trans ((congrFun (hF44.at (by omega) (by omega)) _).trans ((congrFun (hF18.at (by omega) (by omega)) _).trans ((congrFun (hF188.at (by omega) (by omega)) _).trans hJb.1.1))))))) ?_
                                  refine x_lc_ne (tgt := 402) dL_isBest_343 dL_isBest_344 rfl (R64.in (by omega)) (R64.in (by omega)) (fun c344 => ?_) (fun c344 => ?_)
                                  · skip
                                    exact c344 hb3
                                  · skip
                                    refine x_aload_n dL_isBest_347 rfl rfl (by first | decide | omega) ?_
                                    refine x_iconst dL_isBest_348 ?_
                                    refine x_iconst dL_isBest_349 ?_
                                    refine x_callVI (o := 0) (ci := 7) (as := [(0, 0), (0, 4)]) (rest := []) (k := 0) (Gs := GG X) fL_isBest_350.g ⟨Nat.le_of_ble_eq_true rfl, Nat.le_of_ble_eq_true rfl⟩ ⟨show cc ≤ 30000 by omega, show 4 * (cc) + 64 ≤ 130000 by omega⟩ xK_A hX49 (wf_gd Xt.rf ARR_GG (hD_50)) rfl rfl rfl rfl rfl rfl rfl rfl (Nat.le_of_ble_eq_true rfl) ⟨nt_no (by decide), ⟨nt_no (by decide), trivial⟩⟩ (by decide) (q_best X p D nn 4 μ_50 hD_50 (by first | omega | assumption)) (fun x9 μ9 h9 => ⟨wf_gd Xt.rf ARR_GG h9.2.1, fun o ho => h9.1.at (by have h8 : (45 : Int) ≤ o := ho; omega) (by have h8 : (45 : Int) ≤ o := ho; omega)⟩) (fun x51 μ_51 hμ51 => ?_)
                                    obtain ⟨hF51, hD_51, hz_51⟩ := hμ51
                                    have hb4 : x51 = slp D (br - bl) := (by rw [hz_51]; unfold ansB; rw [if_neg hE.2.1, hE.2.2.1, hE.2.2.2.1]; rw [← hE.2.2.1, ← hE.2.2.2.1]; rfl)
                                    refine x_i2l dL_isBest_353 (R32.in (by omega)) ?_
                                    refine x_aload dL_isBest_354 rfl (by first | decide | omega) ?_
                                    refine x_iconst dL_isBest_356 ?_
                                    refine x_laldx (o := 48) (n := 4) (x := slp D (br - bl)) dL_isBest_357 rfl hs48 (Nat.le_of_ble_eq_true rfl) (by omega) ((congrFun (hF51.at (by omega) (by omega)) _).trans ((congrFun (hF50.at (by omega) (by omega)) _).trans ((congrFun (hF49.at (by omega) (by omega)) _).trans ((congrFun (hF48.at (by omega) (by omega)) _).trans ((congrFun (hF47.at (by omega) (by omega)) _).trans ((congrFun (hF44.at (by omega) (by omega)) _).trans ((congrFun (hF18.at (by omega) (by omega)) _).trans ((congrFun (hF188.at (by omega) (by omega)) _).trans hJb.1.2)))))))) ?_
                                    refine x_lc_ne (tgt := 402) dL_isBest_358 dL_isBest_359 rfl (R64.in (by omega)) (R64.in (by omega)) (fun c359 => ?_) (fun c359 => ?_)
                                    · skip
                                      exact c359 hb4
                                    · skip
                                      refine x_aload_n dL_isBest_362 rfl rfl (by first | decide | omega) ?_
                                      refine x_iconst dL_isBest_363 ?_
                                      refine x_iconst dL_isBest_364 ?_
                                      refine x_callVI (o := 0) (ci := 7) (as := [(0, 0), (0, 5)]) (rest := []) (k := 0) (Gs := GG X) fL_isBest_365.g ⟨Nat.le_of_ble_eq_true rfl, Nat.le_of_ble_eq_true rfl⟩ ⟨show cc ≤ 30000 by omega, show 4 * (cc) + 64 ≤ 130000 by omega⟩ xK_A hX49 (wf_gd Xt.rf ARR_GG (hD_51)) rfl rfl rfl rfl rfl rfl rfl rfl (Nat.le_of_ble_eq_true rfl) ⟨nt_no (by decide), ⟨nt_no (by decide), trivial⟩⟩ (by decide) (q_best X p D nn 5 μ_51 hD_51 (by first | omega | assumption)) (fun x9 μ9 h9 => ⟨wf_gd Xt.rf ARR_GG h9.2.1, fun o ho => h9.1.at (by have h8 : (45 : Int) ≤ o := ho; omega) (by have h8 : (45 : Int) ≤ o := ho; omega)⟩) (fun x52 μ_52 hμ52 => ?_)
                                      obtain ⟨hF52, hD_52, hz_52⟩ := hμ52
                                      have hb5 : x52 = stf D (br - bl) bl := (by rw [hz_52]; unfold ansB; rw [if_neg hE.2.1, hE.2.2.1, hE.2.2.2.1]; rw [← hE.2.2.1, ← hE.2.2.2.1]; rfl)
                                      refine x_i2l dL_isBest_368 (R32.in (by omega)) ?_
                                      refine x_aload dL_isBest_369 rfl (by first | decide | omega) ?_
                                      refine x_iconst dL_isBest_371 ?_
                                      refine x_laldx (o := 48) (n := 4) (x := stf D (br - bl) bl) dL_isBest_372 rfl hs48 (Nat.le_of_ble_eq_true rfl) (by omega) ((congrFun (hF52.at (by omega) (by omega)) _).trans ((congrFun (hF51.at (by omega) (by omega)) _).trans ((congrFun (hF50.at (by omega) (by omega)) _).trans ((congrFun (hF49.at (by omega) (by omega)) _).trans ((congrFun (hF48.at (by omega) (by omega)) _).trans ((congrFun (hF47.at (by omega) (by omega)) _).trans ((congrFun (hF44.at (by omega) (by omega)) _).trans ((congrFun (hF18.at (by omega) (by omega)) _).trans ((congrFun (hF188.at (by omega) (by omega)) _).trans hJb.2.1))))))))) ?_
                                      refine x_lc_ne (tgt := 402) dL_isBest_373 dL_isBest_374 rfl (R64.in (by omega)) (R64.in (by omega)) (fun c374 => ?_) (fun c374 => ?_)
                                      · skip
                                        exact c374 hb5
                                      · skip
                                        refine x_aload_n dL_isBest_377 rfl rfl (by first | decide | omega) ?_
                                        refine x_iconst dL_isBest_378 ?_
                                        refine x_iconst dL_isBest_379 ?_
                                        refine x_callVI (o := 0) (ci := 7) (as := [(0, 0), (0, 2)]) (rest := []) (k := 0) (Gs := GG X) fL_isBest_380.g ⟨Nat.le_of_ble_eq_true rfl, Nat.le_of_ble_eq_true rfl⟩ ⟨show cc ≤ 30000 by omega, show 4 * (cc) + 64 ≤ 130000 by omega⟩ xK_A hX49 (wf_gd Xt.rf ARR_GG (hD_52)) rfl rfl rfl rfl rfl rfl rfl rfl (Nat.le_of_ble_eq_true rfl) ⟨nt_no (by decide), ⟨nt_no (by decide), trivial⟩⟩ (by decide) (q_best X p D nn 2 μ_52 hD_52 (by first | omega | assumption)) (fun x9 μ9 h9 => ⟨wf_gd Xt.rf ARR_GG h9.2.1, fun o ho => h9.1.at (by have h8 : (45 : Int) ≤ o := ho; omega) (by have h8 : (45 : Int) ≤ o := ho; omega)⟩) (fun x53 μ_53 hμ53 => ?_)
                                        obtain ⟨hF53, hD_53, hz_53⟩ := hμ53
                                        have hb2 : x53 = stm D (br - bl) bl + slp D (br - bl) + stf D (br - bl) bl := (by rw [hz_53]; unfold ansB; rw [if_neg hE.2.1, hE.2.2.1, hE.2.2.2.1]; rw [← hE.2.2.1, ← hE.2.2.2.1]; rfl)
                                        refine x_i2l dL_isBest_383 (R32.in (by omega)) ?_
                                        refine x_aload dL_isBest_384 rfl (by first | decide | omega) ?_
                                        refine x_iconst dL_isBest_386 ?_
                                        refine x_laldx (o := 48) (n := 4) (x := stm D (br - bl) bl) dL_isBest_387 rfl hs48 (Nat.le_of_ble_eq_true rfl) (by omega) ((congrFun (hF53.at (by omega) (by omega)) _).trans ((congrFun (hF52.at (by omega) (by omega)) _).trans ((congrFun (hF51.at (by omega) (by omega)) _).trans ((congrFun (hF50.at (by omega) (by omega)) _).trans ((congrFun (hF49.at (by omega) (by omega)) _).trans ((congrFun (hF48.at (by omega) (by omega)) _).trans ((congrFun (hF47.at (by omega) (by omega)) _).trans ((congrFun (hF44.at (by omega) (by omega)) _).trans ((congrFun (hF18.at (by omega) (by omega)) _).trans ((congrFun (hF188.at (by omega) (by omega)) _).trans hJb.1.1)))))))))) ?_
                                        refine x_aload dL_isBest_388 rfl (by first | decide | omega) ?_
                                        refine x_iconst dL_isBest_390 ?_
                                        refine x_laldx (o := 48) (n := 4) (x := slp D (br - bl)) dL_isBest_391 rfl hs48 (Nat.le_of_ble_eq_true rfl) (by omega) ((congrFun (hF53.at (by omega) (by omega)) _).trans ((congrFun (hF52.at (by omega) (by omega)) _).trans ((congrFun (hF51.at (by omega) (by omega)) _).trans ((congrFun (hF50.at (by omega) (by omega)) _).trans ((congrFun (hF49.at (by omega) (by omega)) _).trans ((congrFun (hF48.at (by omega) (by omega)) _).trans ((congrFun (hF47.at (by omega) (by omega)) _).trans ((congrFun (hF44.at (by omega) (by omega)) _).trans ((congrFun (hF18.at (by omega) (by omega)) _).trans ((congrFun (hF188.at (by omega) (by omega)) _).trans hJb.1.2)))))))))) ?_
                                        refine x_ladd dL_isBest_392 ?_
                                        refine x_aload dL_isBest_393 rfl (by first | decide | omega) ?_
                                        refine x_iconst dL_isBest_395 ?_
                                        refine x_laldx (o := 48) (n := 4) (x := stf D (br - bl) bl) dL_isBest_396 rfl hs48 (Nat.le_of_ble_eq_true rfl) (by omega) ((congrFun (hF53.at (by omega) (by omega)) _).trans ((congrFun (hF52.at (by omega) (by omega)) _).trans ((congrFun (hF51.at (by omega) (by omega)) _).trans ((congrFun (hF50.at (by omega) (by omega)) _).trans ((congrFun (hF49.at (by omega) (by omega)) _).trans ((congrFun (hF48.at (by omega) (by omega)) _).trans ((congrFun (hF47.at (by omega) (by omega)) _).trans ((congrFun (hF44.at (by omega) (by omega)) _).trans ((congrFun (hF18.at (by omega) (by omega)) _).trans ((congrFun (hF188.at (by omega) (by omega)) _).trans hJb.2.1)))))))))) ?_
                                        refine x_ladd dL_isBest_397 ?_
                                        refine x_lc_eq (tgt := 404) dL_isBest_398 dL_isBest_399 rfl (R64.in (by omega)) (R64.in (by omega)) (fun c399 => ?_) (fun c399 => ?_)
                                        · skip
                                          refine x_iconst dL_isBest_404 ?_
                                          refine x_istore (ls' := [(2, 0), (3, 13), (2, 45), (0, dN D), (2, 46), (2, 47), (0, bl), (0, br), (0, al), (2, 48), (0, 0), (9, 0), (9, 0), (9, 0), (9, 0), (9, 0), (9, 0), (9, 0)]) dL_isBest_405 (Nat.le_of_ble_eq_true rfl) rfl rfl ?_
                                          have hL407 : ∀ (n407 : Nat) (st : Int) (cs9 : Nat) (μs : Mu), (4 - st).toNat = n407 → Fr 6 19 49 60 μs μa → (0 ≤ st ∧ st ≤ 4) → ((cs9 : Int) ≤ 5000 + 5000 * st) → Gx (xK G M_L_isBest 30000 130000 (ibP G μ)) (ax (ax (ax G (20, nn) q46) (20, nn) q47) (23, 4) qb) M_L_isBest cs9 (4 * cs9 + 64) 407 [(2, 0), (3, 13), (2, 45), (0, dN D), (2, 46), (2, 47), (0, bl), (0, br), (0, al), (2, 48), (0, st), (9, 0), (9, 0), (9, 0), (9, 0), (9, 0), (9, 0), (9, 0)] [] μs := by
                                            intro n407
                                            induction n407 using Nat.strongRecOn with
                                            | ind n407 ih407 =>
                                              intro st cs9 μs hn407 hF407 hs0 hcs
                                              refine x_iload dL_isBest_407 rfl ?_
                                              refine x_iconst dL_isBest_409 ?_
                                              refine x_icmp_ge (tgt := 726) dL_isBest_410 rfl (R32.in (by omega)) (R32.in (by decide)) (fun c410 => ?_) (fun c410 => ?_)
                                              · skip
                                                refine x_aload_n dL_isBest_726 rfl rfl (by first | decide | omega) ?_
                                                refine x_iconst dL_isBest_727 ?_
                                                refine x_iload dL_isBest_728 rfl ?_
                                                refine x_iconst dL_isBest_730 ?_
                                                refine x_callVI (o := 0) (ci := 7) (as := [(0, 0), (0, al), (0, 0)]) (rest := []) (k := 0) (Gs := GG X) fL_isBest_731.g ⟨Nat.le_of_ble_eq_true rfl, Nat.le_of_ble_eq_true rfl⟩ ⟨show cs9 ≤ 30000 by omega, show 4 * cs9 + 64 ≤ 130000 by omega⟩ xK_A hX49 (wf_gd Xt.rf ARR_GG ((GD.cg hD (fun o h1 => ((hF407.at (by omega) (by omega)).trans ((hFJ1.at (by omega) (by omega)).trans ((hF50.at (by omega) (by omega)).trans (hF11.at (by omega) (by omega))))))))) rfl rfl rfl rfl rfl rfl rfl rfl (Nat.le_of_ble_eq_true rfl) ⟨nt_no (by decide), ⟨nt_no (by decide), ⟨nt_no (by decide), trivial⟩⟩⟩ (by decide) (q_ranked X p D nn al 0 μs (GD.cg hD (fun o h1 => ((hF407.at (by omega) (by omega)).trans ((hFJ1.at (by omega) (by omega)).trans ((hF50.at (by omega) (by omega)).trans (hF11.at (by omega) (by omega))))))) (by first | omega | assumption) (by first | omega | assumption)) (fun x9 μ9 h9 => ⟨wf_gd Xt.rf ARR_GG h9.2.1, fun o ho => h9.1.at (by have h8 : (45 : Int) ≤ o := ho; omega) (by have h8 : (45 : Int) ≤ o := ho; omega)⟩) (fun x54 μ_54 hμ54 => ?_)
                                                obtain ⟨hF54, hD_54, hz_54⟩ := hμ54
                                                have hu4 : x54 = -1000000 := rnk_out (by omega) hz_54
                                                refine x_ldc (n := -1000000) dL_isBest_734 k_1179 (by decide) ?_
                                                refine x_icmp_ne (tgt := 743) dL_isBest_736 rfl (R32.in (by omega)) (R32.in (by decide)) (fun c736 => ?_) (fun c736 => ?_)
                                                · skip
                                                  exact c736 hu4
                                                · skip
                                                  refine x_iconst dL_isBest_739 ?_
                                                  refine x_goto (tgt := 744) dL_isBest_740 rfl ?_
                                                  have hfin : Fr 6 19 46 60 μ_54 μ := ((hF54.wd (by omega) (by omega)).tr ((hF407.wd (by omega) (by omega)).tr ((hFJ1.wd (by omega) (by omega)).tr ((hF50.wd (by omega) (by omega)).tr (hF11.wd (by omega) (by omega))))))
                                                  refine Gx.loc (ls' := [(9, 0), (9, 0), (9, 0), (9, 0), (9, 0), (9, 0), (9, 0), (9, 0), (9, 0), (9, 0), (9, 0), (9, 0), (9, 0), (9, 0), (9, 0), (9, 0), (9, 0), (9, 0)]) (fun q9 hq9 => by simp [am_l] at hq9) ?_
                                                  refine Gx.drop (wf_gd hX48 hA48 (hD_54)) (by rw [hlen48]; exact ⟨nt_no (by decide), ⟨nt_no (by decide), ⟨nt_no (by decide), ⟨nt_no (by decide), ⟨nt_no (by decide), ⟨nt_no (by decide), ⟨nt_no (by decide), ⟨nt_no (by decide), ⟨nt_no (by decide), ⟨nt_no (by decide), ⟨nt_no (by decide), ⟨nt_no (by decide), ⟨nt_no (by decide), ⟨nt_no (by decide), ⟨nt_no (by decide), ⟨nt_no (by decide), ⟨nt_no (by decide), ⟨nt_no (by decide), trivial⟩⟩⟩⟩⟩⟩⟩⟩⟩⟩⟩⟩⟩⟩⟩⟩⟩⟩) (by rw [hlen48]; exact ⟨nt_no (by decide), trivial⟩) ?_
                                                  refine Gx.drop (wf_gd hX47 hA47 (hD_54)) (by rw [hlen47]; exact ⟨nt_no (by decide), ⟨nt_no (by decide), ⟨nt_no (by decide), ⟨nt_no (by decide), ⟨nt_no (by decide), ⟨nt_no (by decide), ⟨nt_no (by decide), ⟨nt_no (by decide), ⟨nt_no (by decide), ⟨nt_no (by decide), ⟨nt_no (by decide), ⟨nt_no (by decide), ⟨nt_no (by decide), ⟨nt_no (by decide), ⟨nt_no (by decide), ⟨nt_no (by decide), ⟨nt_no (by decide), ⟨nt_no (by decide), trivial⟩⟩⟩⟩⟩⟩⟩⟩⟩⟩⟩⟩⟩⟩⟩⟩⟩⟩) (by rw [hlen47]; exact ⟨nt_no (by decide), trivial⟩) ?_
                                                  refine Gx.drop (wf_gd hX46 hA46 (hD_54)) (by rw [hlen46]; exact ⟨nt_no (by decide), ⟨nt_no (by decide), ⟨nt_no (by decide), ⟨nt_no (by decide), ⟨nt_no (by decide), ⟨nt_no (by decide), ⟨nt_no (by decide), ⟨nt_no (by decide), ⟨nt_no (by decide), ⟨nt_no (by decide), ⟨nt_no (by decide), ⟨nt_no (by decide), ⟨nt_no (by decide), ⟨nt_no (by decide), ⟨nt_no (by decide), ⟨nt_no (by decide), ⟨nt_no (by decide), ⟨nt_no (by decide), trivial⟩⟩⟩⟩⟩⟩⟩⟩⟩⟩⟩⟩⟩⟩⟩⟩⟩⟩) (by rw [hlen46]; exact ⟨nt_no (by decide), trivial⟩) ?_
                                                  exact x_zretX dL_isBest_744 rfl (Or.inr rfl) ⟨by omega, by omega⟩ Xt.rf ⟨rfl, rfl, fun o h1 h2 => hfin.at (by omega) (by omega)⟩
                                              · skip
                                                refine x_iload dL_isBest_413 rfl ?_
                                                refine x_aload_nS dL_isBest_415 rfl rfl ?_
                                                refine x_bipush dL_isBest_416 (by decide) ?_
                                                refine x_iload dL_isBest_418 rfl ?_
                                                refine x_iadd dL_isBest_420 ?_
                                                refine x_callSP (as := [(3, 13), (0, 24 + st)]) (rest := [(0, bl)]) (k := 0) fL_isBest_421.g ⟨Nat.le_of_ble_eq_true rfl, Nat.le_of_ble_eq_true rfl⟩ ⟨show cs9 ≤ 30000 by omega, show 4 * cs9 + 64 ≤ 130000 by omega⟩ xK_A (wf_gd hX49 hA49 ((GD.cg hD (fun o h1 => ((hF407.at (by omega) (by omega)).trans ((hFJ1.at (by omega) (by omega)).trans ((hF50.at (by omega) (by omega)).trans (hF11.at (by omega) (by omega))))))))) rfl rfl rfl rfl rfl (Nat.le_of_ble_eq_true rfl) ⟨nt_no (by decide), ⟨nt_no (by decide), trivial⟩⟩ (by decide) (show Wp (ax (ax (ax G (20, nn) q46) (20, nn) q47) (23, 4) qb) M_L_cell 0 [(3, 13), (0, 24 + st)] [] μs (pP 0 (sc G (24 + st)) μs) from (s_L_cell (ax (ax (ax G (20, nn) q46) (20, nn) q47) (23, 4) qb) (24 + st) μs hk4 (by first | omega | assumption))) ?_
                                                have hf55 := sc_r G (24 + st)
                                                refine x_bipush dL_isBest_424 (by decide) ?_
                                                refine x_callSP (as := [(0, sc G (24 + st)), (0, 9)]) (rest := [(0, bl)]) (k := 0) fL_isBest_426.g ⟨Nat.le_of_ble_eq_true rfl, Nat.le_of_ble_eq_true rfl⟩ ⟨show cs9 ≤ 30000 by omega, show 4 * cs9 + 64 ≤ 130000 by omega⟩ xK_A (wf_gd hX49 hA49 ((GD.cg hD (fun o h1 => ((hF407.at (by omega) (by omega)).trans ((hFJ1.at (by omega) (by omega)).trans ((hF50.at (by omega) (by omega)).trans (hF11.at (by omega) (by omega))))))))) rfl rfl rfl rfl rfl (Nat.le_of_ble_eq_true rfl) ⟨nt_no (by decide), ⟨nt_no (by decide), trivial⟩⟩ (by decide) (show Wp (ax (ax (ax G (20, nn) q46) (20, nn) q47) (23, 4) qb) M_L_in 0 [(0, sc G (24 + st)), (0, 9)] [] μs (pP 0 (inn (sc G (24 + st)) 9) μs) from (s_L_in (ax (ax (ax G (20, nn) q46) (20, nn) q47) (23, 4) qb) (sc G (24 + st)) 9 μs (by first | omega | assumption))) ?_
                                                have hf56 := inn_rr (sc G (24 + st)) 9 (by omega)
                                                refine x_iadd dL_isBest_429 ?_
                                                refine x_iconst dL_isBest_430 ?_
                                                refine x_isub dL_isBest_431 ?_
                                                refine Gx.top (fun l9 hl9 => ?_)
                                                refine x_istore (ls' := [(2, 0), (3, 13), (2, 45), (0, dN D), (2, 46), (2, 47), (0, bl), (0, br), (0, al), (2, 48), (0, st), (0, l9), (9, 0), (9, 0), (9, 0), (9, 0), (9, 0), (9, 0)]) dL_isBest_432 (Nat.le_of_ble_eq_true rfl) rfl rfl ?_
                                                refine x_iload dL_isBest_434 rfl ?_
                                                refine x_aload_nS dL_isBest_436 rfl rfl ?_
                                                refine x_bipush dL_isBest_437 (by decide) ?_
                                                refine x_iload dL_isBest_439 rfl ?_
                                                refine x_iadd dL_isBest_441 ?_
                                                refine x_callSP (as := [(3, 13), (0, 24 + st)]) (rest := [(0, l9)]) (k := 0) fL_isBest_442.g ⟨Nat.le_of_ble_eq_true rfl, Nat.le_of_ble_eq_true rfl⟩ ⟨show cs9 ≤ 30000 by omega, show 4 * cs9 + 64 ≤ 130000 by omega⟩ xK_A (wf_gd hX49 hA49 ((GD.cg hD (fun o h1 => ((hF407.at (by omega) (by omega)).trans ((hFJ1.at (by omega) (by omega)).trans ((hF50.at (by omega) (by omega)).trans (hF11.at (by omega) (by omega))))))))) rfl rfl rfl rfl rfl (Nat.le_of_ble_eq_true rfl) ⟨nt_no (by decide), ⟨nt_no (by decide), trivial⟩⟩ (by decide) (show Wp (ax (ax (ax G (20, nn) q46) (20, nn) q47) (23, 4) qb) M_L_cell 0 [(3, 13), (0, 24 + st)] [] μs (pP 0 (sc G (24 + st)) μs) from (s_L_cell (ax (ax (ax G (20, nn) q46) (20, nn) q47) (23, 4) qb) (24 + st) μs hk4 (by first | omega | assumption))) ?_
                                                have hf57 := sc_r G (24 + st)
                                                refine x_bipush dL_isBest_445 (by decide) ?_
                                                refine x_idiv dL_isBest_447 (R32.in (by omega)) (R32.in (by decide)) (by omega) ?_
                                                refine x_bipush dL_isBest_448 (by decide) ?_
                                                refine x_callSP (as := [(0, Int.tdiv (sc G (24 + st)) 16), (0, 9)]) (rest := [(0, l9)]) (k := 0) fL_isBest_450.g ⟨Nat.le_of_ble_eq_true rfl, Nat.le_of_ble_eq_true rfl⟩ ⟨show cs9 ≤ 30000 by omega, show 4 * cs9 + 64 ≤ 130000 by omega⟩ xK_A (wf_gd hX49 hA49 ((GD.cg hD (fun o h1 => ((hF407.at (by omega) (by omega)).trans ((hFJ1.at (by omega) (by omega)).trans ((hF50.at (by omega) (by omega)).trans (hF11.at (by omega) (by omega))))))))) rfl rfl rfl rfl rfl (Nat.le_of_ble_eq_true rfl) ⟨nt_no (by decide), ⟨nt_no (by decide), trivial⟩⟩ (by decide) (show Wp (ax (ax (ax G (20, nn) q46) (20, nn) q47) (23, 4) qb) M_L_in 0 [(0, Int.tdiv (sc G (24 + st)) 16), (0, 9)] [] μs (pP 0 (inn (Int.tdiv (sc G (24 + st)) 16) 9) μs) from (s_L_in (ax (ax (ax G (20, nn) q46) (20, nn) q47) (23, 4) qb) (Int.tdiv (sc G (24 + st)) 16) 9 μs (by first | omega | assumption))) ?_
                                                have hf58 := inn_rr (Int.tdiv (sc G (24 + st)) 16) 9 (by omega)
                                                refine x_iadd dL_isBest_453 ?_
                                                refine x_iconst dL_isBest_454 ?_
                                                refine x_isub dL_isBest_455 ?_
                                                refine Gx.top (fun r9 hr9 => ?_)
                                                refine x_istore (ls' := [(2, 0), (3, 13), (2, 45), (0, dN D), (2, 46), (2, 47), (0, bl), (0, br), (0, al), (2, 48), (0, st), (0, l9), (0, r9), (9, 0), (9, 0), (9, 0), (9, 0), (9, 0)]) dL_isBest_456 (Nat.le_of_ble_eq_true rfl) rfl rfl ?_
                                                refine x_iload dL_isBest_458 rfl ?_
                                                refine x_abs fL_isBest_460 (R32.in (by omega)) (Nat.le_of_ble_eq_true rfl) ⟨Nat.le_of_ble_eq_true rfl, Nat.le_of_ble_eq_true rfl, show cs9 ≤ 30000 by omega, show 4 * cs9 + 64 ≤ 130000 by omega⟩ ?_
                                                refine x_bipush dL_isBest_463 (by decide) ?_
                                                refine x_icmp_gt (tgt := 720) dL_isBest_465 rfl (R32.in (by omega)) (R32.in (by decide)) (fun c465 => ?_) (fun c465 => ?_)
                                                · skip
                                                  refine x_iinc (ls' := [(2, 0), (3, 13), (2, 45), (0, dN D), (2, 46), (2, 47), (0, bl), (0, br), (0, al), (2, 48), (0, st + 1), (0, l9), (0, r9), (9, 0), (9, 0), (9, 0), (9, 0), (9, 0)]) dL_isBest_720 rfl (Nat.le_of_ble_eq_true rfl) rfl rfl ?_
                                                  refine x_goto (tgt := 407) dL_isBest_723 rfl ?_
                                                  refine Gx.fgl (ls' := [(2, 0), (3, 13), (2, 45), (0, dN D), (2, 46), (2, 47), (0, bl), (0, br), (0, al), (2, 48), (0, st + 1), (9, 0), (0, r9), (9, 0), (9, 0), (9, 0), (9, 0), (9, 0)]) 11 rfl ?_
                                                  refine Gx.fgl (ls' := [(2, 0), (3, 13), (2, 45), (0, dN D), (2, 46), (2, 47), (0, bl), (0, br), (0, al), (2, 48), (0, st + 1), (9, 0), (9, 0), (9, 0), (9, 0), (9, 0), (9, 0), (9, 0)]) 12 rfl ?_
                                                  exact ih407 _ (by omega) (st + 1) cs9 μs rfl hF407 (by first | omega | assumption) (by first | omega | assumption)
                                                · skip
                                                  refine x_iload dL_isBest_468 rfl ?_
                                                  refine x_abs fL_isBest_470 (R32.in (by omega)) (Nat.le_of_ble_eq_true rfl) ⟨Nat.le_of_ble_eq_true rfl, Nat.le_of_ble_eq_true rfl, show cs9 ≤ 30000 by omega, show 4 * cs9 + 64 ≤ 130000 by omega⟩ ?_
                                                  refine x_bipush dL_isBest_473 (by decide) ?_
                                                  refine x_icmp_le (tgt := 481) dL_isBest_475 rfl (R32.in (by omega)) (R32.in (by decide)) (fun c475 => ?_) (fun c475 => ?_)
                                                  · skip
                                                    refine x_aload_nS dL_isBest_481 rfl rfl ?_
                                                    refine x_aload_n dL_isBest_482 rfl rfl (by first | decide | omega) ?_
                                                    refine x_aload dL_isBest_483 rfl (by first | decide | omega) ?_
                                                    refine x_aload dL_isBest_485 rfl (by first | decide | omega) ?_
                                                    refine x_iload dL_isBest_487 rfl ?_
                                                    refine x_iload dL_isBest_489 rfl ?_
                                                    refine x_callSX (as := [(3, 13), (2, 45), (2, 47), (2, 46), (0, l9), (0, r9)]) (rest := []) (k := 19) (mc := 1) (ms := 4) (P := (judP D l9 r9 49 (ax (ax (ax G (20, nn) q46) (20, nn) q47) (23, 4) qb) μs)) fL_isBest_491.g ⟨Nat.le_of_ble_eq_true rfl, Nat.le_of_ble_eq_true rfl⟩ ⟨show cs9 + 1 ≤ 30000 by omega, show 4 * cs9 + 64 + 4 ≤ 130000 by omega⟩ xK_A (wf_gd hX49 hA49 ((GD.cg hD (fun o h1 => ((hF407.at (by omega) (by omega)).trans ((hFJ1.at (by omega) (by omega)).trans ((hF50.at (by omega) (by omega)).trans (hF11.at (by omega) (by omega))))))))) rfl rfl rfl rfl rfl (Nat.le_of_ble_eq_true rfl) (by rw [hlen49]; exact ⟨fun _ => (by omega), ⟨nt_no (by decide), ⟨fun _ => (by omega), ⟨nt_no (by decide), ⟨fun _ => (by omega), ⟨fun _ => (by omega), ⟨nt_no (by decide), ⟨nt_no (by decide), ⟨nt_no (by decide), ⟨fun _ => (by omega), ⟨nt_no (by decide), ⟨nt_no (by decide), ⟨nt_no (by decide), ⟨nt_no (by decide), ⟨nt_no (by decide), ⟨nt_no (by decide), ⟨nt_no (by decide), ⟨nt_no (by decide), trivial⟩⟩⟩⟩⟩⟩⟩⟩⟩⟩⟩⟩⟩⟩⟩⟩⟩⟩) (by rw [hlen49]; exact trivial) (s_L_judged (ax (ax (ax G (20, nn) q46) (20, nn) q47) (23, 4) qb) D nn 49 l9 r9 μs hlen49 (by decide) hs45 hs46 hs47 (wf_gd hX49 hA49 ((GD.cg hD (fun o h1 => ((hF407.at (by omega) (by omega)).trans ((hFJ1.at (by omega) (by omega)).trans ((hF50.at (by omega) (by omega)).trans (hF11.at (by omega) (by omega))))))))) (LD.cg hLD (fun o h1 => ((hF407.at (by omega) (by omega)).trans ((hFJ1.at (by omega) (by omega)).trans (hF50.at (by omega) (by omega)))))) (LW.cg hW50 (fun o h1 => ((hF407.at (by omega) (by omega)).trans (hFJ1.at (by omega) (by omega))))) (by omega)) (fun G491 r491 μ491 hp491 hx491 => ?_)
                                                    rcases hp491 with ⟨hna491, rfl, rfl, rfl⟩ | ⟨hal491, q491, rfl, rfl, hv491, ho491⟩
                                                    · skip
                                                      refine Gx.cg (ls' := [(2, 0), (3, 13), (2, 45), (0, dN D), (2, 46), (2, 47), (0, bl), (0, br), (0, al), (2, 48), (0, st), (0, l9), (0, r9), (9, 0), (9, 0), (9, 0), (9, 0), (9, 0)]) (st' := [(2, -1)]) (μ' := μs) ?_ rfl rfl rfl
                                                      refine Gx.widen (cs2 := cs9 + 1) (ss2 := 4 * (cs9 + 1) + 64) (by omega) (by omega) ?_
                                                      refine x_astoreN (ls' := [(2, 0), (3, 13), (2, 45), (0, dN D), (2, 46), (2, 47), (0, bl), (0, br), (0, al), (2, 48), (0, st), (0, l9), (0, r9), (2, -1), (9, 0), (9, 0), (9, 0), (9, 0)]) dL_isBest_494 (Nat.le_of_ble_eq_true rfl) rfl rfl ?_
                                                      refine x_aload_n dL_isBest_496 rfl rfl (by first | decide | omega) ?_
                                                      refine x_iconst dL_isBest_497 ?_
                                                      refine x_iload dL_isBest_498 rfl ?_
                                                      refine x_iload dL_isBest_500 rfl ?_
                                                      refine x_iconst dL_isBest_502 ?_
                                                      refine x_callVI (o := 0) (ci := 7) (as := [(0, 0), (0, l9), (0, r9), (0, 0)]) (rest := []) (k := 0) (Gs := GG X) fL_isBest_503.g ⟨Nat.le_of_ble_eq_true rfl, Nat.le_of_ble_eq_true rfl⟩ ⟨show cs9 + 1 ≤ 30000 by omega, show 4 * (cs9 + 1) + 64 ≤ 130000 by omega⟩ xK_A hX49 (wf_gd Xt.rf ARR_GG ((GD.cg hD (fun o h1 => ((hF407.at (by omega) (by omega)).trans ((hFJ1.at (by omega) (by omega)).trans ((hF50.at (by omega) (by omega)).trans (hF11.at (by omega) (by omega))))))))) rfl rfl rfl rfl rfl rfl rfl rfl (Nat.le_of_ble_eq_true rfl) ⟨nt_no (by decide), ⟨nt_no (by decide), ⟨nt_no (by decide), ⟨nt_no (by decide), trivial⟩⟩⟩⟩ (by decide) (q_ugliness X p D nn l9 r9 μs (GD.cg hD (fun o h1 => ((hF407.at (by omega) (by omega)).trans ((hFJ1.at (by omega) (by omega)).trans ((hF50.at (by omega) (by omega)).trans (hF11.at (by omega) (by omega))))))) (by first | omega | assumption)) (fun x9 μ9 h9 => ⟨wf_gd Xt.rf ARR_GG h9.2.1, fun o ho => h9.1.at (by have h8 : (45 : Int) ≤ o := ho; omega) (by have h8 : (45 : Int) ≤ o := ho; omega)⟩) (fun x59 μ_59 hμ59 => ?_)
                                                      obtain ⟨hF59, hD_59, hz_59⟩ := hμ59
                                                      have hu9 : RES = -2 := (by rw [hz_#]; exact if_neg (fun q9 => hna491 ((alwB_iff (by omega)).mp q9)))
                                                      refine x_i2l dL_isBest_506 (R32.in (by omega)) ?_
                                                      refine x_aloadN dL_isBest_507 rfl ?_
                                                      refine x_ifnonnull_n dL_isBest_509 ?_
                                                      refine x_ldc2 (n := -2) dL_isBest_512 k_1212 (by decide) ?_
                                                      refine x_goto (tgt := 532) dL_isBest_515 rfl ?_
                                                      refine x_lc_eq (tgt := 538) dL_isBest_532 dL_isBest_533 rfl (R64.in (by omega)) (R64.in (by omega)) (fun c533 => ?_) (fun c533 => ?_)
                                                      · skip
                                                        refine x_aloadN dL_isBest_538 rfl ?_
                                                        refine x_ifnonnull_n dL_isBest_540 ?_
                                                        refine x_aload_n dL_isBest_543 rfl rfl (by first | decide | omega) ?_
                                                        refine x_iconst dL_isBest_544 ?_
                                                        refine x_iload dL_isBest_545 rfl ?_
                                                        refine x_iload dL_isBest_547 rfl ?_
                                                        refine x_callVI (o := 0) (ci := 7) (as := [(0, 0), (0, l9), (0, r9)]) (rest := []) (k := 0) (Gs := GG X) fL_isBest_549.g ⟨Nat.le_of_ble_eq_true rfl, Nat.le_of_ble_eq_true rfl⟩ ⟨show cs9 + 1 ≤ 30000 by omega, show 4 * (cs9 + 1) + 64 ≤ 130000 by omega⟩ xK_A hX49 (wf_gd Xt.rf ARR_GG (hD_59)) rfl rfl rfl rfl rfl rfl rfl rfl (Nat.le_of_ble_eq_true rfl) ⟨nt_no (by decide), ⟨nt_no (by decide), ⟨nt_no (by decide), trivial⟩⟩⟩ (by decide) (q_rank X p D nn l9 r9 μ_59 hD_59 (by first | omega | assumption)) (fun x9 μ9 h9 => ⟨wf_gd Xt.rf ARR_GG h9.2.1, fun o ho => h9.1.at (by have h8 : (45 : Int) ≤ o := ho; omega) (by have h8 : (45 : Int) ≤ o := ho; omega)⟩) (fun x60 μ_60 hμ60 => ?_)
                                                        obtain ⟨hF60, hD_60, hz_60⟩ := hμ60
                                                        have hu8 : x60 = -2 := (by rw [hz_60]; exact if_neg (fun q9 => hna491 ((alwB_iff (by omega)).mp q9)))
                                                        refine x_bipush dL_isBest_552 (by decide) ?_
                                                        refine x_icmp_eq (tgt := 720) dL_isBest_554 rfl (R32.in (by omega)) (R32.in (by decide)) (fun c554 => ?_) (fun c554 => ?_)
                                                        · skip
                                                          refine x_iinc (ls' := [(2, 0), (3, 13), (2, 45), (0, dN D), (2, 46), (2, 47), (0, bl), (0, br), (0, al), (2, 48), (0, st + 1), (0, l9), (0, r9), (2, -1), (9, 0), (9, 0), (9, 0), (9, 0)]) dL_isBest_720 rfl (Nat.le_of_ble_eq_true rfl) rfl rfl ?_
                                                          refine x_goto (tgt := 407) dL_isBest_723 rfl ?_
                                                          refine Gx.fgl (ls' := [(2, 0), (3, 13), (2, 45), (0, dN D), (2, 46), (2, 47), (0, bl), (0, br), (0, al), (2, 48), (0, st + 1), (9, 0), (0, r9), (2, -1), (9, 0), (9, 0), (9, 0), (9, 0)]) 11 rfl ?_
                                                          refine Gx.fgl (ls' := [(2, 0), (3, 13), (2, 45), (0, dN D), (2, 46), (2, 47), (0, bl), (0, br), (0, al), (2, 48), (0, st + 1), (9, 0), (9, 0), (2, -1), (9, 0), (9, 0), (9, 0), (9, 0)]) 12 rfl ?_
                                                          refine Gx.fgl (ls' := [(2, 0), (3, 13), (2, 45), (0, dN D), (2, 46), (2, 47), (0, bl), (0, br), (0, al), (2, 48), (0, st + 1), (9, 0), (9, 0), (9, 0), (9, 0), (9, 0), (9, 0), (9, 0)]) 13 rfl ?_
                                                          exact ih407 _ (by omega) (st + 1) (cs9 + 1) μ_60 rfl ((hF60.wd (by omega) (by omega)).tr ((hF59.wd (by omega) (by omega)).tr hF407)) (by first | omega | assumption) (by first | omega | assumption)
                                                        · skip
                                                          exact c554 hu8
                                                      · skip
                                                        exact c533 hu9
                                                    · skip
                                                      refine Gx.cg (ls' := [(2, 0), (3, 13), (2, 45), (0, dN D), (2, 46), (2, 47), (0, bl), (0, br), (0, al), (2, 48), (0, st), (0, l9), (0, r9), (9, 0), (9, 0), (9, 0), (9, 0), (9, 0)]) (st' := [(2, 49)]) (μ' := μ491) ?_ rfl rfl rfl
                                                      refine Gx.widen (cs2 := cs9 + 1) (ss2 := 4 * (cs9 + 1) + 64) (by omega) (by omega) ?_
                                                      have hF491 : Fr 49 49 1 0 μ491 μs := (fun o h1 h2 => ho491 o (by omega))
                                                      have hJ491 : rowJ μ491 49 D l9 r9 := hv491
                                                      have hlen50 : (gS (ax (ax (ax (ax G (20, nn) q46) (20, nn) q47) (23, 4) qb) (23, 4) q491)).length = 50 := (by rw [ax_len, hlen49])
                                                      have hX50 : Xt (GG X) (ax (ax (ax (ax G (20, nn) q46) (20, nn) q47) (23, 4) qb) (23, 4) q491) := hX49.tr (Xt.ax (ax (ax (ax G (20, nn) q46) (20, nn) q47) (23, 4) qb) (23, 4) q491)
                                                      have hA50 : ARR (ax (ax (ax (ax G (20, nn) q46) (20, nn) q47) (23, 4) qb) (23, 4) q491) := hA49.ax (Nat.le_of_ble_eq_true rfl)
                                                      have hs45 := (Xt.ax (ax (ax (ax G (20, nn) q46) (20, nn) q47) (23, 4) qb) (23, 4) q491).sh hs45
                                                      have hs46 := (Xt.ax (ax (ax (ax G (20, nn) q46) (20, nn) q47) (23, 4) qb) (23, 4) q491).sh hs46
                                                      have hs47 := (Xt.ax (ax (ax (ax G (20, nn) q46) (20, nn) q47) (23, 4) qb) (23, 4) q491).sh hs47
                                                      have hs48 := (Xt.ax (ax (ax (ax G (20, nn) q46) (20, nn) q47) (23, 4) qb) (23, 4) q491).sh hs48
                                                      have hs49 : (gS (ax (ax (ax (ax G (20, nn) q46) (20, nn) q47) (23, 4) qb) (23, 4) q491))[49]? = some (23, 4) := (by have h9 := @ax_sh (ax (ax (ax G (20, nn) q46) (20, nn) q47) (23, 4) qb) (23, 4) q491; rw [hlen49] at h9; exact h9)
                                                      have hst9 := stm_a hok hal491
                                                      have hsl9 := slp_f D (r9 - l9) (by omega)
                                                      have hsf9 := stf_f D (r9 - l9) l9 hok
                                                      refine x_astore (ls' := [(2, 0), (3, 13), (2, 45), (0, dN D), (2, 46), (2, 47), (0, bl), (0, br), (0, al), (2, 48), (0, st), (0, l9), (0, r9), (2, 49), (9, 0), (9, 0), (9, 0), (9, 0)]) dL_isBest_494 (Nat.le_of_ble_eq_true rfl) rfl (by first | decide | omega) rfl ?_
                                                      refine x_aload_n dL_isBest_496 rfl rfl (by first | decide | omega) ?_
                                                      refine x_iconst dL_isBest_497 ?_
                                                      refine x_iload dL_isBest_498 rfl ?_
                                                      refine x_iload dL_isBest_500 rfl ?_
                                                      refine x_iconst dL_isBest_502 ?_
                                                      refine x_callVI (o := 0) (ci := 7) (as := [(0, 0), (0, l9), (0, r9), (0, 0)]) (rest := []) (k := 0) (Gs := GG X) fL_isBest_503.g ⟨Nat.le_of_ble_eq_true rfl, Nat.le_of_ble_eq_true rfl⟩ ⟨show cs9 + 1 ≤ 30000 by omega, show 4 * (cs9 + 1) + 64 ≤ 130000 by omega⟩ xK_A hX50 (wf_gd Xt.rf ARR_GG ((GD.cg hD (fun o h1 => ((hF491.at (by omega) (by omega)).trans ((hF407.at (by omega) (by omega)).trans ((hFJ1.at (by omega) (by omega)).trans ((hF50.at (by omega) (by omega)).trans (hF11.at (by omega) (by omega)))))))))) rfl rfl rfl rfl rfl rfl rfl rfl (Nat.le_of_ble_eq_true rfl) ⟨nt_no (by decide), ⟨nt_no (by decide), ⟨nt_no (by decide), ⟨nt_no (by decide), trivial⟩⟩⟩⟩ (by decide) (q_ugliness X p D nn l9 r9 μ491 (GD.cg hD (fun o h1 => ((hF491.at (by omega) (by omega)).trans ((hF407.at (by omega) (by omega)).trans ((hFJ1.at (by omega) (by omega)).trans ((hF50.at (by omega) (by omega)).trans (hF11.at (by omega) (by omega)))))))) (by first | omega | assumption)) (fun x9 μ9 h9 => ⟨wf_gd Xt.rf ARR_GG h9.2.1, fun o ho => h9.1.at (by have h8 : (45 : Int) ≤ o := ho; omega) (by have h8 : (45 : Int) ≤ o := ho; omega)⟩) (fun x61 μ_61 hμ61 => ?_)
                                                      obtain ⟨hF61, hD_61, hz_61⟩ := hμ61
                                                      have hu9 : RES = stm D (r9 - l9) l9 + slp D (r9 - l9) + stf D (r9 - l9) l9 := (by rw [hz_#, if_pos ((alwB_iff (by omega)).mpr hal491)]; rfl)
                                                      refine x_i2l dL_isBest_506 (R32.in (by omega)) ?_
                                                      refine x_aload dL_isBest_507 rfl (by first | decide | omega) ?_
                                                      refine x_ifnonnull_r (tgt := 518) dL_isBest_509 rfl (by omega) ?_
                                                      refine x_aload dL_isBest_518 rfl (by first | decide | omega) ?_
                                                      refine x_iconst dL_isBest_520 ?_
                                                      refine x_laldx (o := 49) (n := 4) (x := stm D (r9 - l9) l9) dL_isBest_521 rfl hs49 (Nat.le_of_ble_eq_true rfl) (by omega) ((congrFun (hF61.at (by omega) (by omega)) _).trans hJ491.1.1) ?_
                                                      refine x_aload dL_isBest_522 rfl (by first | decide | omega) ?_
                                                      refine x_iconst dL_isBest_524 ?_
                                                      refine x_laldx (o := 49) (n := 4) (x := slp D (r9 - l9)) dL_isBest_525 rfl hs49 (Nat.le_of_ble_eq_true rfl) (by omega) ((congrFun (hF61.at (by omega) (by omega)) _).trans hJ491.1.2) ?_
                                                      refine x_ladd dL_isBest_526 ?_
                                                      refine x_aload dL_isBest_527 rfl (by first | decide | omega) ?_
                                                      refine x_iconst dL_isBest_529 ?_
                                                      refine x_laldx (o := 49) (n := 4) (x := stf D (r9 - l9) l9) dL_isBest_530 rfl hs49 (Nat.le_of_ble_eq_true rfl) (by omega) ((congrFun (hF61.at (by omega) (by omega)) _).trans hJ491.2.1) ?_
                                                      refine x_ladd dL_isBest_531 ?_
                                                      refine x_lc_eq (tgt := 538) dL_isBest_532 dL_isBest_533 rfl (R64.in (by omega)) (R64.in (by omega)) (fun c533 => ?_) (fun c533 => ?_)
                                                      · skip
                                                        refine x_aload dL_isBest_538 rfl (by first | decide | omega) ?_
                                                        refine x_ifnonnull_r (tgt := 559) dL_isBest_540 rfl (by omega) ?_
                                                        refine x_iconst dL_isBest_559 ?_
                                                        refine x_istore (ls' := [(2, 0), (3, 13), (2, 45), (0, dN D), (2, 46), (2, 47), (0, bl), (0, br), (0, al), (2, 48), (0, st), (0, l9), (0, r9), (2, 49), (0, 0), (9, 0), (9, 0), (9, 0)]) dL_isBest_560 (Nat.le_of_ble_eq_true rfl) rfl rfl ?_
                                                        refine x_bipush dL_isBest_562 (by decide) ?_
                                                        refine x_istore (ls' := [(2, 0), (3, 13), (2, 45), (0, dN D), (2, 46), (2, 47), (0, bl), (0, br), (0, al), (2, 48), (0, st), (0, l9), (0, r9), (2, 49), (0, 0), (0, -60), (9, 0), (9, 0)]) dL_isBest_564 (Nat.le_of_ble_eq_true rfl) rfl rfl ?_
                                                        have hJ2 : ∀ nJ2 : Nat, (∀ (k : Int) (a : Int) (cc2 : Nat) (μr : Mu), ((61 - a) * 40 + 20).toNat = nJ2 → Fr 50 60 1 0 μr μ_61 → (-60 ≤ a ∧ a ≤ 61) → (k = cnB D (sN D a (-60)) (keyq D (l9, r9))) → ((cc2 : Int) + ((61 - a) * 40 + 20) ≤ cc + 4950) → Gx (xK G M_L_isBest 30000 130000 (ibP G μ)) (ax (ax (ax (ax G (20, nn) q46) (20, nn) q47) (23, 4) qb) (23, 4) q491) M_L_isBest cc2 (4 * (cc2) + 64) 566 [(2, 0), (3, 13), (2, 45), (0, dN D), (2, 46), (2, 47), (0, bl), (0, br), (0, al), (2, 48), (0, st), (0, l9), (0, r9), (2, 49), (0, k), (0, a), (9, 0), (9, 0)] [] μr) ∧ (∀ (k : Int) (a : Int) (b : Int) (cc2 : Nat) (μr : Mu), ((61 - a) * 40 + (9 - (b - a))).toNat = nJ2 → Fr 50 60 1 0 μr μ_61 → (-60 ≤ a ∧ a ≤ 60) → ((-60 ≤ b ∧ b ≤ 61) ∧ (a - 8 ≤ b ∧ b ≤ a + 9)) → (k = cnB D (sN D a b) (keyq D (l9, r9))) → ((cc2 : Int) + ((61 - a) * 40 + (9 - (b - a))) ≤ cc + 4950) → Gx (xK G M_L_isBest 30000 130000 (ibP G μ)) (ax (ax (ax (ax G (20, nn) q46) (20, nn) q47) (23, 4) qb) (23, 4) q491) M_L_isBest cc2 (4 * (cc2) + 64) 585 [(2, 0), (3, 13), (2, 45), (0, dN D), (2, 46), (2, 47), (0, bl), (0, br), (0, al), (2, 48), (0, st), (0, l9), (0, r9), (2, 49), (0, k), (0, a), (0, b), (9, 0)] [] μr) := by
                                                          intro nJ2
                                                          induction nJ2 using Nat.strongRecOn with
                                                          | ind nJ2 ihJ2 =>
                                                            refine ⟨?_, ?_⟩
                                                            · intro k a cc2 μr hnJ2 hFJ2 ha hR hcc2
                                                              have hkr := cnB_r (D := D) (sN D a (-60)) (keyq D (l9, r9))
                                                              have hkl := sN_len (D := D) (l := a) (r := -60) (by omega) (by omega)
                                                              refine x_iload dL_isBest_566 rfl ?_
                                                              refine x_bipush dL_isBest_568 (by decide) ?_
                                                              refine x_icmp_gt (tgt := 678) dL_isBest_570 rfl (R32.in (by omega)) (R32.in (by decide)) (fun c570 => ?_) (fun c570 => ?_)
                                                              · skip
                                                                have hk9 : k = rkD D (key D (r9 - l9) l9) := (by rw [hR, show a = 61 by omega, sN_end, cnB_end]; rfl)
                                                                have hi9 := lr_inS (l := l9) (r := r9) (by omega)
                                                                refine x_aload_n dL_isBest_678 rfl rfl (by first | decide | omega) ?_
                                                                refine x_iconst dL_isBest_679 ?_
                                                                refine x_iload dL_isBest_680 rfl ?_
                                                                refine x_iload dL_isBest_682 rfl ?_
                                                                refine x_callVI (o := 0) (ci := 7) (as := [(0, 0), (0, l9), (0, r9)]) (rest := []) (k := 0) (Gs := GG X) fL_isBest_684.g ⟨Nat.le_of_ble_eq_true rfl, Nat.le_of_ble_eq_true rfl⟩ ⟨show cc2 ≤ 30000 by omega, show 4 * (cc2) + 64 ≤ 130000 by omega⟩ xK_A hX50 (wf_gd Xt.rf ARR_GG ((GD.cg hD_61 (fun o h1 => (hFJ2.at (by omega) (by omega)))))) rfl rfl rfl rfl rfl rfl rfl rfl (Nat.le_of_ble_eq_true rfl) ⟨nt_no (by decide), ⟨nt_no (by decide), ⟨nt_no (by decide), trivial⟩⟩⟩ (by decide) (q_rank X p D nn l9 r9 μr (GD.cg hD_61 (fun o h1 => (hFJ2.at (by omega) (by omega)))) (by first | omega | assumption)) (fun x9 μ9 h9 => ⟨wf_gd Xt.rf ARR_GG h9.2.1, fun o ho => h9.1.at (by have h8 : (45 : Int) ≤ o := ho; omega) (by have h8 : (45 : Int) ≤ o := ho; omega)⟩) (fun x62 μ_62 hμ62 => ?_)
                                                                obtain ⟨hF62, hD_62, hz_62⟩ := hμ62
                                                                have hu7 : x62 = k := (by rw [hz_62, if_pos ((alwB_iff (by omega)).mpr hal491)]; exact hk9.symm)
                                                                refine x_iload dL_isBest_687 rfl ?_
                                                                refine x_icmp_ne (tgt := 718) dL_isBest_689 rfl (R32.in (by omega)) (R32.in (by omega)) (fun c689 => ?_) (fun c689 => ?_)
                                                                · skip
                                                                  exact c689 hu7
                                                                · skip
                                                                  refine x_aload_n dL_isBest_692 rfl rfl (by first | decide | omega) ?_
                                                                  refine x_iconst dL_isBest_693 ?_
                                                                  refine x_iload dL_isBest_694 rfl ?_
                                                                  refine x_iconst dL_isBest_696 ?_
                                                                  refine x_callVI (o := 0) (ci := 7) (as := [(0, 0), (0, k), (0, 0)]) (rest := []) (k := 0) (Gs := GG X) fL_isBest_697.g ⟨Nat.le_of_ble_eq_true rfl, Nat.le_of_ble_eq_true rfl⟩ ⟨show cc2 ≤ 30000 by omega, show 4 * (cc2) + 64 ≤ 130000 by omega⟩ xK_A hX50 (wf_gd Xt.rf ARR_GG (hD_62)) rfl rfl rfl rfl rfl rfl rfl rfl (Nat.le_of_ble_eq_true rfl) ⟨nt_no (by decide), ⟨nt_no (by decide), ⟨nt_no (by decide), trivial⟩⟩⟩ (by decide) (q_ranked X p D nn k 0 μ_62 hD_62 (by first | omega | assumption) (by first | omega | assumption)) (fun x9 μ9 h9 => ⟨wf_gd Xt.rf ARR_GG h9.2.1, fun o ho => h9.1.at (by have h8 : (45 : Int) ≤ o := ho; omega) (by have h8 : (45 : Int) ≤ o := ho; omega)⟩) (fun x63 μ_63 hμ63 => ?_)
                                                                  obtain ⟨hF63, hD_63, hz_63⟩ := hμ63
                                                                  have hu6 : x63 = l9 := rnk_is hok hi9 hal491 hk9 hz_63
                                                                  refine x_iload dL_isBest_700 rfl ?_
                                                                  refine x_icmp_ne (tgt := 718) dL_isBest_702 rfl (R32.in (by omega)) (R32.in (by omega)) (fun c702 => ?_) (fun c702 => ?_)
                                                                  · skip
                                                                    exact c702 hu6
                                                                  · skip
                                                                    refine x_aload_n dL_isBest_705 rfl rfl (by first | decide | omega) ?_
                                                                    refine x_iconst dL_isBest_706 ?_
                                                                    refine x_iload dL_isBest_707 rfl ?_
                                                                    refine x_iconst dL_isBest_709 ?_
                                                                    refine x_callVI (o := 0) (ci := 7) (as := [(0, 0), (0, k), (0, 1)]) (rest := []) (k := 0) (Gs := GG X) fL_isBest_710.g ⟨Nat.le_of_ble_eq_true rfl, Nat.le_of_ble_eq_true rfl⟩ ⟨show cc2 ≤ 30000 by omega, show 4 * (cc2) + 64 ≤ 130000 by omega⟩ xK_A hX50 (wf_gd Xt.rf ARR_GG (hD_63)) rfl rfl rfl rfl rfl rfl rfl rfl (Nat.le_of_ble_eq_true rfl) ⟨nt_no (by decide), ⟨nt_no (by decide), ⟨nt_no (by decide), trivial⟩⟩⟩ (by decide) (q_ranked X p D nn k 1 μ_63 hD_63 (by first | omega | assumption) (by first | omega | assumption)) (fun x9 μ9 h9 => ⟨wf_gd Xt.rf ARR_GG h9.2.1, fun o ho => h9.1.at (by have h8 : (45 : Int) ≤ o := ho; omega) (by have h8 : (45 : Int) ≤ o := ho; omega)⟩) (fun x64 μ_64 hμ64 => ?_)
                                                                    obtain ⟨hF64, hD_64, hz_64⟩ := hμ64
                                                                    have hu5 : x64 = r9 := (by rw [rnk_is hok hi9 hal491 hk9 hz_64]; show l9 + (r9 - l9) = r9; omega)
                                                                    refine x_iload dL_isBest_713 rfl ?_
                                                                    refine x_icmp_eq (tgt := 720) dL_isBest_715 rfl (R32.in (by omega)) (R32.in (by omega)) (fun c715 => ?_) (fun c715 => ?_)
                                                                    · skip
                                                                      refine x_iinc (ls' := [(2, 0), (3, 13), (2, 45), (0, dN D), (2, 46), (2, 47), (0, bl), (0, br), (0, al), (2, 48), (0, st + 1), (0, l9), (0, r9), (2, 49), (0, k), (0, a), (9, 0), (9, 0)]) dL_isBest_720 rfl (Nat.le_of_ble_eq_true rfl) rfl rfl ?_
                                                                      refine x_goto (tgt := 407) dL_isBest_723 rfl ?_
                                                                      refine Gx.fgl (ls' := [(2, 0), (3, 13), (2, 45), (0, dN D), (2, 46), (2, 47), (0, bl), (0, br), (0, al), (2, 48), (0, st + 1), (9, 0), (0, r9), (2, 49), (0, k), (0, a), (9, 0), (9, 0)]) 11 rfl ?_
                                                                      refine Gx.fgl (ls' := [(2, 0), (3, 13), (2, 45), (0, dN D), (2, 46), (2, 47), (0, bl), (0, br), (0, al), (2, 48), (0, st + 1), (9, 0), (9, 0), (2, 49), (0, k), (0, a), (9, 0), (9, 0)]) 12 rfl ?_
                                                                      refine Gx.fgl (ls' := [(2, 0), (3, 13), (2, 45), (0, dN D), (2, 46), (2, 47), (0, bl), (0, br), (0, al), (2, 48), (0, st + 1), (9, 0), (9, 0), (9, 0), (0, k), (0, a), (9, 0), (9, 0)]) 13 rfl ?_
                                                                      refine Gx.fgl (ls' := [(2, 0), (3, 13), (2, 45), (0, dN D), (2, 46), (2, 47), (0, bl), (0, br), (0, al), (2, 48), (0, st + 1), (9, 0), (9, 0), (9, 0), (9, 0), (0, a), (9, 0), (9, 0)]) 14 rfl ?_
                                                                      refine Gx.fgl (ls' := [(2, 0), (3, 13), (2, 45), (0, dN D), (2, 46), (2, 47), (0, bl), (0, br), (0, al), (2, 48), (0, st + 1), (9, 0), (9, 0), (9, 0), (9, 0), (9, 0), (9, 0), (9, 0)]) 15 rfl ?_
                                                                      refine Gx.drop (wf_gd hX49 hA49 (hD_64)) (by rw [hlen49]; exact ⟨fun _ => (by omega), ⟨nt_no (by decide), ⟨fun _ => (by omega), ⟨nt_no (by decide), ⟨fun _ => (by omega), ⟨fun _ => (by omega), ⟨nt_no (by decide), ⟨nt_no (by decide), ⟨nt_no (by decide), ⟨fun _ => (by omega), ⟨nt_no (by decide), ⟨nt_no (by decide), ⟨nt_no (by decide), ⟨nt_no (by decide), ⟨nt_no (by decide), ⟨nt_no (by decide), ⟨nt_no (by decide), ⟨nt_no (by decide), trivial⟩⟩⟩⟩⟩⟩⟩⟩⟩⟩⟩⟩⟩⟩⟩⟩⟩⟩) (by rw [hlen49]; exact trivial) ?_
                                                                      exact ih407 _ (by omega) (st + 1) cc2 μ_64 rfl ((hF64.wd (by omega) (by omega)).tr ((hF63.wd (by omega) (by omega)).tr ((hF62.wd (by omega) (by omega)).tr ((hFJ2.wd (by omega) (by omega)).tr ((hF61.wd (by omega) (by omega)).tr ((hF491.wd (by omega) (by omega)).tr hF407)))))) (by first | omega | assumption) (by first | omega | assumption)
                                                                    · skip
                                                                      exact c715 hu5
                                                              · skip
                                                                refine x_bipush dL_isBest_573 (by decide) ?_
                                                                refine x_iload dL_isBest_575 rfl ?_
                                                                refine x_bipush dL_isBest_577 (by decide) ?_
                                                                refine x_isub dL_isBest_579 ?_
                                                                refine x_max fL_isBest_580 (R32.in (by decide)) (R32.in (by omega)) (Nat.le_of_ble_eq_true rfl) ⟨Nat.le_of_ble_eq_true rfl, Nat.le_of_ble_eq_true rfl, show cc2 ≤ 30000 by omega, show 4 * (cc2) + 64 ≤ 130000 by omega⟩ ?_
                                                                refine x_istore (ls' := [(2, 0), (3, 13), (2, 45), (0, dN D), (2, 46), (2, 47), (0, bl), (0, br), (0, al), (2, 48), (0, st), (0, l9), (0, r9), (2, 49), (0, k), (0, a), (0, max (-60) (a - 8)), (9, 0)]) dL_isBest_583 (Nat.le_of_ble_eq_true rfl) rfl rfl ?_
                                                                exact (ihJ2 _ (by omega)).2.2.2.2.2 k a (max (-60) (a - 8)) cc2 μr rfl hFJ2 (by omega) (by omega) (by first | (rw [@sN_beg _ a (by omega)]; exact hR) | (rw [@sN_n _ a (max (-60) (a - 8)) (by omega) (by omega) (fun q9 => hna610 ((alwB_iff (by omega)).mp q9.2)), Int.add_zero]; exact hR) | (rw [@sN_y _ a (max (-60) (a - 8)) (by omega) (by omega) (by omega) ((alwB_iff (by omega)).mpr hal610), cnB_s, ← hR]; first | (rw [if_pos c655]) | (rw [if_neg c655]) | (rw [if_neg (by rw [c626, c631]; exact Int.lt_irrefl _)]))) (by omega)
                                                            · intro k a b cc2 μr hnJ2 hFJ2 ha hb hR hcc2
                                                              have hkr := cnB_r (D := D) (sN D a b) (keyq D (l9, r9))
                                                              have hkl := sN_len (D := D) (l := a) (r := b) (by omega) (by omega)
                                                              refine x_iload dL_isBest_585 rfl ?_
                                                              refine x_bipush dL_isBest_587 (by decide) ?_
                                                              refine x_iload dL_isBest_589 rfl ?_
                                                              refine x_bipush dL_isBest_591 (by decide) ?_
                                                              refine x_iadd dL_isBest_593 ?_
                                                              refine x_min fL_isBest_594 (R32.in (by decide)) (R32.in (by omega)) (Nat.le_of_ble_eq_true rfl) ⟨Nat.le_of_ble_eq_true rfl, Nat.le_of_ble_eq_true rfl, show cc2 ≤ 30000 by omega, show 4 * (cc2) + 64 ≤ 130000 by omega⟩ ?_
                                                              refine x_icmp_gt (tgt := 672) dL_isBest_597 rfl (R32.in (by omega)) (R32.in (by omega)) (fun c597 => ?_) (fun c597 => ?_)
                                                              · skip
                                                                refine x_iinc (ls' := [(2, 0), (3, 13), (2, 45), (0, dN D), (2, 46), (2, 47), (0, bl), (0, br), (0, al), (2, 48), (0, st), (0, l9), (0, r9), (2, 49), (0, k), (0, a + 1), (0, b), (9, 0)]) dL_isBest_672 rfl (Nat.le_of_ble_eq_true rfl) rfl rfl ?_
                                                                refine x_goto (tgt := 566) dL_isBest_675 rfl ?_
                                                                refine Gx.fgl (ls' := [(2, 0), (3, 13), (2, 45), (0, dN D), (2, 46), (2, 47), (0, bl), (0, br), (0, al), (2, 48), (0, st), (0, l9), (0, r9), (2, 49), (0, k), (0, a + 1), (9, 0), (9, 0)]) 16 rfl ?_
                                                                exact (ihJ2 _ (by omega)).2.2.2.2 k (a + 1) cc2 μr rfl hFJ2 (by omega) (by rw [@sN_row _ (a + 1) b (by omega) (by omega) (by intro x h1 h2; omega)]; exact hR) (by omega)
                                                              · skip
                                                                refine x_aload_nS dL_isBest_600 rfl rfl ?_
                                                                refine x_aload_n dL_isBest_601 rfl rfl (by first | decide | omega) ?_
                                                                refine x_aload dL_isBest_602 rfl (by first | decide | omega) ?_
                                                                refine x_aload dL_isBest_604 rfl (by first | decide | omega) ?_
                                                                refine x_iload dL_isBest_606 rfl ?_
                                                                refine x_iload dL_isBest_608 rfl ?_
                                                                refine x_callSX (as := [(3, 13), (2, 45), (2, 47), (2, 46), (0, a), (0, b)]) (rest := []) (k := 19) (mc := 1) (ms := 4) (P := (judP D a b 50 (ax (ax (ax (ax G (20, nn) q46) (20, nn) q47) (23, 4) qb) (23, 4) q491) μr)) fL_isBest_610.g ⟨Nat.le_of_ble_eq_true rfl, Nat.le_of_ble_eq_true rfl⟩ ⟨show cc2 + 1 ≤ 30000 by omega, show 4 * (cc2) + 64 + 4 ≤ 130000 by omega⟩ xK_A (wf_gd hX50 hA50 ((GD.cg hD_61 (fun o h1 => (hFJ2.at (by omega) (by omega)))))) rfl rfl rfl rfl rfl (Nat.le_of_ble_eq_true rfl) (by rw [hlen50]; exact ⟨fun _ => (by omega), ⟨nt_no (by decide), ⟨fun _ => (by omega), ⟨nt_no (by decide), ⟨fun _ => (by omega), ⟨fun _ => (by omega), ⟨nt_no (by decide), ⟨nt_no (by decide), ⟨nt_no (by decide), ⟨fun _ => (by omega), ⟨nt_no (by decide), ⟨nt_no (by decide), ⟨nt_no (by decide), ⟨fun _ => (by omega), ⟨nt_no (by decide), ⟨nt_no (by decide), ⟨nt_no (by decide), ⟨nt_no (by decide), trivial⟩⟩⟩⟩⟩⟩⟩⟩⟩⟩⟩⟩⟩⟩⟩⟩⟩⟩) (by rw [hlen50]; exact trivial) (s_L_judged (ax (ax (ax (ax G (20, nn) q46) (20, nn) q47) (23, 4) qb) (23, 4) q491) D nn 50 a b μr hlen50 (by decide) hs45 hs46 hs47 (wf_gd hX50 hA50 ((GD.cg hD_61 (fun o h1 => (hFJ2.at (by omega) (by omega)))))) (LD.cg hLD (fun o h1 => ((hFJ2.at (by omega) (by omega)).trans ((hF61.at (by omega) (by omega)).trans ((hF491.at (by omega) (by omega)).trans ((hF407.at (by omega) (by omega)).trans ((hFJ1.at (by omega) (by omega)).trans (hF50.at (by omega) (by omega))))))))) (LW.cg hW50 (fun o h1 => ((hFJ2.at (by omega) (by omega)).trans ((hF61.at (by omega) (by omega)).trans ((hF491.at (by omega) (by omega)).trans ((hF407.at (by omega) (by omega)).trans (hFJ1.at (by omega) (by omega)))))))) (by omega)) (fun G610 r610 μ610 hp610 hx610 => ?_)
                                                                rcases hp610 with ⟨hna610, rfl, rfl, rfl⟩ | ⟨hal610, q610, rfl, rfl, hv610, ho610⟩
                                                                · skip
                                                                  refine Gx.cg (ls' := [(2, 0), (3, 13), (2, 45), (0, dN D), (2, 46), (2, 47), (0, bl), (0, br), (0, al), (2, 48), (0, st), (0, l9), (0, r9), (2, 49), (0, k), (0, a), (0, b), (9, 0)]) (st' := [(2, -1)]) (μ' := μr) ?_ rfl rfl rfl
                                                                  refine Gx.widen (cs2 := cc2 + 1) (ss2 := 4 * (cc2 + 1) + 64) (by omega) (by omega) ?_
                                                                  refine x_astoreN (ls' := [(2, 0), (3, 13), (2, 45), (0, dN D), (2, 46), (2, 47), (0, bl), (0, br), (0, al), (2, 48), (0, st), (0, l9), (0, r9), (2, 49), (0, k), (0, a), (0, b), (2, -1)]) dL_isBest_613 (Nat.le_of_ble_eq_true rfl) rfl rfl ?_
                                                                  refine x_iload dL_isBest_615 rfl ?_
                                                                  refine x_aloadN dL_isBest_617 rfl ?_
                                                                  refine x_ifnull_n (tgt := 662) dL_isBest_619 rfl ?_
                                                                  refine x_iconst dL_isBest_662 ?_
                                                                  refine x_iadd dL_isBest_663 ?_
                                                                  refine x_istore (ls' := [(2, 0), (3, 13), (2, 45), (0, dN D), (2, 46), (2, 47), (0, bl), (0, br), (0, al), (2, 48), (0, st), (0, l9), (0, r9), (2, 49), (0, k + 0), (0, a), (0, b), (2, -1)]) dL_isBest_664 (Nat.le_of_ble_eq_true rfl) rfl rfl ?_
                                                                  refine x_iinc (ls' := [(2, 0), (3, 13), (2, 45), (0, dN D), (2, 46), (2, 47), (0, bl), (0, br), (0, al), (2, 48), (0, st), (0, l9), (0, r9), (2, 49), (0, k + 0), (0, a), (0, b + 1), (2, -1)]) dL_isBest_666 rfl (Nat.le_of_ble_eq_true rfl) rfl rfl ?_
                                                                  refine x_goto (tgt := 585) dL_isBest_669 rfl ?_
                                                                  refine Gx.fgl (ls' := [(2, 0), (3, 13), (2, 45), (0, dN D), (2, 46), (2, 47), (0, bl), (0, br), (0, al), (2, 48), (0, st), (0, l9), (0, r9), (2, 49), (0, k + 0), (0, a), (0, b + 1), (9, 0)]) 17 rfl ?_
                                                                  exact (ihJ2 _ (by omega)).2.2.2.2.2 (k + 0) a (b + 1) (cc2 + 1) μr rfl hFJ2 (by omega) (by omega) (by first | (rw [@sN_beg _ a (by omega)]; exact hR) | (rw [@sN_n _ a (b + 1) (by omega) (by omega) (fun q9 => hna610 ((alwB_iff (by omega)).mp q9.2)), Int.add_zero]; exact hR) | (rw [@sN_y _ a (b + 1) (by omega) (by omega) (by omega) ((alwB_iff (by omega)).mpr hal610), cnB_s, ← hR]; first | (rw [if_pos c655]) | (rw [if_neg c655]) | (rw [if_neg (by rw [c626, c631]; exact Int.lt_irrefl _)]))) (by omega)
                                                                · skip
                                                                  refine Gx.cg (ls' := [(2, 0), (3, 13), (2, 45), (0, dN D), (2, 46), (2, 47), (0, bl), (0, br), (0, al), (2, 48), (0, st), (0, l9), (0, r9), (2, 49), (0, k), (0, a), (0, b), (9, 0)]) (st' := [(2, 50)]) (μ' := μ610) ?_ rfl rfl rfl
                                                                  refine Gx.widen (cs2 := cc2 + 1) (ss2 := 4 * (cc2 + 1) + 64) (by omega) (by omega) ?_
                                                                  have hF610 : Fr 50 50 1 0 μ610 μr := (fun o h1 h2 => ho610 o (by omega))
                                                                  have hJ610 : rowJ μ610 50 D a b := hv610
                                                                  have hlen51 : (gS (ax (ax (ax (ax (ax G (20, nn) q46) (20, nn) q47) (23, 4) qb) (23, 4) q491) (23, 4) q610)).length = 51 := (by rw [ax_len, hlen50])
                                                                  have hX51 : Xt (GG X) (ax (ax (ax (ax (ax G (20, nn) q46) (20, nn) q47) (23, 4) qb) (23, 4) q491) (23, 4) q610) := hX50.tr (Xt.ax (ax (ax (ax (ax G (20, nn) q46) (20, nn) q47) (23, 4) qb) (23, 4) q491) (23, 4) q610)
                                                                  have hA51 : ARR (ax (ax (ax (ax (ax G (20, nn) q46) (20, nn) q47) (23, 4) qb) (23, 4) q491) (23, 4) q610) := hA50.ax (Nat.le_of_ble_eq_true rfl)
                                                                  have hs45 := (Xt.ax (ax (ax (ax (ax G (20, nn) q46) (20, nn) q47) (23, 4) qb) (23, 4) q491) (23, 4) q610).sh hs45
                                                                  have hs46 := (Xt.ax (ax (ax (ax (ax G (20, nn) q46) (20, nn) q47) (23, 4) qb) (23, 4) q491) (23, 4) q610).sh hs46
                                                                  have hs47 := (Xt.ax (ax (ax (ax (ax G (20, nn) q46) (20, nn) q47) (23, 4) qb) (23, 4) q491) (23, 4) q610).sh hs47
                                                                  have hs48 := (Xt.ax (ax (ax (ax (ax G (20, nn) q46) (20, nn) q47) (23, 4) qb) (23, 4) q491) (23, 4) q610).sh hs48
                                                                  have hs49 := (Xt.ax (ax (ax (ax (ax G (20, nn) q46) (20, nn) q47) (23, 4) qb) (23, 4) q491) (23, 4) q610).sh hs49
                                                                  have hs50 : (gS (ax (ax (ax (ax (ax G (20, nn) q46) (20, nn) q47) (23, 4) qb) (23, 4) q491) (23, 4) q610))[50]? = some (23, 4) := (by have h9 := @ax_sh (ax (ax (ax (ax G (20, nn) q46) (20, nn) q47) (23, 4) qb) (23, 4) q491) (23, 4) q610; rw [hlen50] at h9; exact h9)
                                                                  refine x_astore (ls' := [(2, 0), (3, 13), (2, 45), (0, dN D), (2, 46), (2, 47), (0, bl), (0, br), (0, al), (2, 48), (0, st), (0, l9), (0, r9), (2, 49), (0, k), (0, a), (0, b), (2, 50)]) dL_isBest_613 (Nat.le_of_ble_eq_true rfl) rfl (by first | decide | omega) rfl ?_
                                                                  refine x_iload dL_isBest_615 rfl ?_
                                                                  refine x_aload dL_isBest_617 rfl (by first | decide | omega) ?_
                                                                  refine x_ifnull_r dL_isBest_619 (by omega) ?_
                                                                  refine x_iload dL_isBest_622 rfl ?_
                                                                  refine x_iload dL_isBest_624 rfl ?_
                                                                  refine x_icmp_ne (tgt := 636) dL_isBest_626 rfl (R32.in (by omega)) (R32.in (by omega)) (fun c626 => ?_) (fun c626 => ?_)
                                                                  · skip
                                                                    refine x_aload dL_isBest_636 rfl (by first | decide | omega) ?_
                                                                    refine x_iload dL_isBest_638 rfl ?_
                                                                    refine x_iload dL_isBest_640 rfl ?_
                                                                    refine x_aload dL_isBest_642 rfl (by first | decide | omega) ?_
                                                                    refine x_iload dL_isBest_644 rfl ?_
                                                                    refine x_iload dL_isBest_646 rfl ?_
                                                                    refine x_aload dL_isBest_648 rfl (by first | decide | omega) ?_
                                                                    refine x_iconst dL_isBest_650 ?_
                                                                    refine x_ialdx (o := 47) (n := nn) (x := way D 0) dL_isBest_651 rfl hs47 (by omega) (by omega) ((congrFun (hF610.at (by omega) (by omega)) _).trans ((congrFun (hFJ2.at (by omega) (by omega)) _).trans ((congrFun (hF61.at (by omega) (by omega)) _).trans ((congrFun (hF491.at (by omega) (by omega)) _).trans ((congrFun (hF407.at (by omega) (by omega)) _).trans ((congrFun (hFJ1.at (by omega) (by omega)) _).trans (hW50 _ (by omega) (by omega)))))))) ?_
                                                                    have hr65 := way_b D 0
                                                                    refine x_callSP (as := [(2, 50), (0, a), (0, b), (2, 49), (0, l9), (0, r9), (0, way D 0)]) (rest := [(0, k)]) (k := 4) fL_isBest_652.g ⟨Nat.le_of_ble_eq_true rfl, Nat.le_of_ble_eq_true rfl⟩ ⟨show cc2 + 1 ≤ 30000 by omega, show 4 * (cc2 + 1) + 64 ≤ 130000 by omega⟩ xK_A (wf_gd hX51 hA51 ((GD.cg hD_61 (fun o h1 => ((hF610.at (by omega) (by omega)).trans (hFJ2.at (by omega) (by omega))))))) rfl rfl rfl rfl rfl (Nat.le_of_ble_eq_true rfl) ⟨fun _ => (by omega), ⟨nt_no (by decide), ⟨nt_no (by decide), ⟨fun _ => (by omega), ⟨nt_no (by decide), ⟨nt_no (by decide), ⟨nt_no (by decide), trivial⟩⟩⟩⟩⟩⟩⟩ (by decide) (show Wp (ax (ax (ax (ax (ax G (20, nn) q46) (20, nn) q47) (23, 4) qb) (23, 4) q491) (23, 4) q610) M_L_isAhead 0 [(2, 50), (0, a), (0, b), (2, 49), (0, l9), (0, r9), (0, way D 0), (9, 0), (9, 0), (9, 0), (9, 0)] [] μ610 (pP 0 (am_b (keyq D (a, b) < keyq D (l9, r9))) μ610) from (s_L_isAheadJ50 (ax (ax (ax (ax (ax G (20, nn) q46) (20, nn) q47) (23, 4) qb) (23, 4) q491) (23, 4) q610) D a b l9 r9 μ610 hok hs50 hs49 hJ610 (rowJ.cg hJ491 (fun o h1 => ((hF610.at (by omega) (by omega)).trans ((hFJ2.at (by omega) (by omega)).trans (hF61.at (by omega) (by omega)))))) hal610 hal491 (by omega) (by omega))) ?_
                                                                    have hf66 := am_b_r (keyq D (a, b) < keyq D (l9, r9))
                                                                    refine x_if_eq (tgt := 662) dL_isBest_655 rfl (R32.in (by have := am_b_r ((keyq D (a, b) < keyq D (l9, r9))); omega)) (fun c655 => ?_) (fun c655 => ?_)
                                                                    · skip
                                                                      replace c655 := am_b0 c655
                                                                      refine x_iconst dL_isBest_662 ?_
                                                                      refine x_iadd dL_isBest_663 ?_
                                                                      refine x_istore (ls' := [(2, 0), (3, 13), (2, 45), (0, dN D), (2, 46), (2, 47), (0, bl), (0, br), (0, al), (2, 48), (0, st), (0, l9), (0, r9), (2, 49), (0, k + 0), (0, a), (0, b), (2, 50)]) dL_isBest_664 (Nat.le_of_ble_eq_true rfl) rfl rfl ?_
                                                                      refine x_iinc (ls' := [(2, 0), (3, 13), (2, 45), (0, dN D), (2, 46), (2, 47), (0, bl), (0, br), (0, al), (2, 48), (0, st), (0, l9), (0, r9), (2, 49), (0, k + 0), (0, a), (0, b + 1), (2, 50)]) dL_isBest_666 rfl (Nat.le_of_ble_eq_true rfl) rfl rfl ?_
                                                                      refine x_goto (tgt := 585) dL_isBest_669 rfl ?_
                                                                      refine Gx.fgl (ls' := [(2, 0), (3, 13), (2, 45), (0, dN D), (2, 46), (2, 47), (0, bl), (0, br), (0, al), (2, 48), (0, st), (0, l9), (0, r9), (2, 49), (0, k + 0), (0, a), (0, b + 1), (9, 0)]) 17 rfl ?_
                                                                      refine Gx.drop (wf_gd hX50 hA50 ((GD.cg hD_61 (fun o h1 => ((hF610.at (by omega) (by omega)).trans (hFJ2.at (by omega) (by omega))))))) (by rw [hlen50]; exact ⟨fun _ => (by omega), ⟨nt_no (by decide), ⟨fun _ => (by omega), ⟨nt_no (by decide), ⟨fun _ => (by omega), ⟨fun _ => (by omega), ⟨nt_no (by decide), ⟨nt_no (by decide), ⟨nt_no (by decide), ⟨fun _ => (by omega), ⟨nt_no (by decide), ⟨nt_no (by decide), ⟨nt_no (by decide), ⟨fun _ => (by omega), ⟨nt_no (by decide), ⟨nt_no (by decide), ⟨nt_no (by decide), ⟨nt_no (by decide), trivial⟩⟩⟩⟩⟩⟩⟩⟩⟩⟩⟩⟩⟩⟩⟩⟩⟩⟩) (by rw [hlen50]; exact trivial) ?_
                                                                      exact (ihJ2 _ (by omega)).2.2.2.2.2 (k + 0) a (b + 1) (cc2 + 1) μ610 rfl ((hF610.wd (by omega) (by omega)).tr hFJ2) (by omega) (by omega) (by first | (rw [@sN_beg _ a (by omega)]; exact hR) | (rw [@sN_n _ a (b + 1) (by omega) (by omega) (fun q9 => hna610 ((alwB_iff (by omega)).mp q9.2)), Int.add_zero]; exact hR) | (rw [@sN_y _ a (b + 1) (by omega) (by omega) (by omega) ((alwB_iff (by omega)).mpr hal610), cnB_s, ← hR]; first | (rw [if_pos c655]) | (rw [if_neg c655]) | (rw [if_neg (by rw [c626, c631]; exact Int.lt_irrefl _)]))) (by omega)
                                                                    · skip
                                                                      replace c655 := am_b1 c655
                                                                      refine x_iconst dL_isBest_658 ?_
                                                                      refine x_goto (tgt := 663) dL_isBest_659 rfl ?_
                                                                      refine x_iadd dL_isBest_663 ?_
                                                                      refine x_istore (ls' := [(2, 0), (3, 13), (2, 45), (0, dN D), (2, 46), (2, 47), (0, bl), (0, br), (0, al), (2, 48), (0, st), (0, l9), (0, r9), (2, 49), (0, k + 1), (0, a), (0, b), (2, 50)]) dL_isBest_664 (Nat.le_of_ble_eq_true rfl) rfl rfl ?_
                                                                      refine x_iinc (ls' := [(2, 0), (3, 13), (2, 45), (0, dN D), (2, 46), (2, 47), (0, bl), (0, br), (0, al), (2, 48), (0, st), (0, l9), (0, r9), (2, 49), (0, k + 1), (0, a), (0, b + 1), (2, 50)]) dL_isBest_666 rfl (Nat.le_of_ble_eq_true rfl) rfl rfl ?_
                                                                      refine x_goto (tgt := 585) dL_isBest_669 rfl ?_
                                                                      refine Gx.fgl (ls' := [(2, 0), (3, 13), (2, 45), (0, dN D), (2, 46), (2, 47), (0, bl), (0, br), (0, al), (2, 48), (0, st), (0, l9), (0, r9), (2, 49), (0, k + 1), (0, a), (0, b + 1), (9, 0)]) 17 rfl ?_
                                                                      refine Gx.drop (wf_gd hX50 hA50 ((GD.cg hD_61 (fun o h1 => ((hF610.at (by omega) (by omega)).trans (hFJ2.at (by omega) (by omega))))))) (by rw [hlen50]; exact ⟨fun _ => (by omega), ⟨nt_no (by decide), ⟨fun _ => (by omega), ⟨nt_no (by decide), ⟨fun _ => (by omega), ⟨fun _ => (by omega), ⟨nt_no (by decide), ⟨nt_no (by decide), ⟨nt_no (by decide), ⟨fun _ => (by omega), ⟨nt_no (by decide), ⟨nt_no (by decide), ⟨nt_no (by decide), ⟨fun _ => (by omega), ⟨nt_no (by decide), ⟨nt_no (by decide), ⟨nt_no (by decide), ⟨nt_no (by decide), trivial⟩⟩⟩⟩⟩⟩⟩⟩⟩⟩⟩⟩⟩⟩⟩⟩⟩⟩) (by rw [hlen50]; exact trivial) ?_
                                                                      exact (ihJ2 _ (by omega)).2.2.2.2.2 (k + 1) a (b + 1) (cc2 + 1) μ610 rfl ((hF610.wd (by omega) (by omega)).tr hFJ2) (by omega) (by omega) (by first | (rw [@sN_beg _ a (by omega)]; exact hR) | (rw [@sN_n _ a (b + 1) (by omega) (by omega) (fun q9 => hna610 ((alwB_iff (by omega)).mp q9.2)), Int.add_zero]; exact hR) | (rw [@sN_y _ a (b + 1) (by omega) (by omega) (by omega) ((alwB_iff (by omega)).mpr hal610), cnB_s, ← hR]; first | (rw [if_pos c655]) | (rw [if_neg c655]) | (rw [if_neg (by rw [c626, c631]; exact Int.lt_irrefl _)]))) (by omega)
                                                                  · skip
                                                                    refine x_iload dL_isBest_629 rfl ?_
                                                                    refine x_iload dL_isBest_631 rfl ?_
                                                                    refine x_icmp_eq (tgt := 662) dL_isBest_633 rfl (R32.in (by omega)) (R32.in (by omega)) (fun c633 => ?_) (fun c633 => ?_)
                                                                    · skip
                                                                      refine x_iconst dL_isBest_662 ?_
                                                                      refine x_iadd dL_isBest_663 ?_
                                                                      refine x_istore (ls' := [(2, 0), (3, 13), (2, 45), (0, dN D), (2, 46), (2, 47), (0, bl), (0, br), (0, al), (2, 48), (0, st), (0, l9), (0, r9), (2, 49), (0, k + 0), (0, a), (0, b), (2, 50)]) dL_isBest_664 (Nat.le_of_ble_eq_true rfl) rfl rfl ?_
                                                                      refine x_iinc (ls' := [(2, 0), (3, 13), (2, 45), (0, dN D), (2, 46), (2, 47), (0, bl), (0, br), (0, al), (2, 48), (0, st), (0, l9), (0, r9), (2, 49), (0, k + 0), (0, a), (0, b + 1), (2, 50)]) dL_isBest_666 rfl (Nat.le_of_ble_eq_true rfl) rfl rfl ?_
                                                                      refine x_goto (tgt := 585) dL_isBest_669 rfl ?_
                                                                      refine Gx.fgl (ls' := [(2, 0), (3, 13), (2, 45), (0, dN D), (2, 46), (2, 47), (0, bl), (0, br), (0, al), (2, 48), (0, st), (0, l9), (0, r9), (2, 49), (0, k + 0), (0, a), (0, b + 1), (9, 0)]) 17 rfl ?_
                                                                      refine Gx.drop (wf_gd hX50 hA50 ((GD.cg hD_61 (fun o h1 => ((hF610.at (by omega) (by omega)).trans (hFJ2.at (by omega) (by omega))))))) (by rw [hlen50]; exact ⟨fun _ => (by omega), ⟨nt_no (by decide), ⟨fun _ => (by omega), ⟨nt_no (by decide), ⟨fun _ => (by omega), ⟨fun _ => (by omega), ⟨nt_no (by decide), ⟨nt_no (by decide), ⟨nt_no (by decide), ⟨fun _ => (by omega), ⟨nt_no (by decide), ⟨nt_no (by decide), ⟨nt_no (by decide), ⟨fun _ => (by omega), ⟨nt_no (by decide), ⟨nt_no (by decide), ⟨nt_no (by decide), ⟨nt_no (by decide), trivial⟩⟩⟩⟩⟩⟩⟩⟩⟩⟩⟩⟩⟩⟩⟩⟩⟩⟩) (by rw [hlen50]; exact trivial) ?_
                                                                      exact (ihJ2 _ (by omega)).2.2.2.2.2 (k + 0) a (b + 1) (cc2 + 1) μ610 rfl ((hF610.wd (by omega) (by omega)).tr hFJ2) (by omega) (by omega) (by first | (rw [@sN_beg _ a (by omega)]; exact hR) | (rw [@sN_n _ a (b + 1) (by omega) (by omega) (fun q9 => hna610 ((alwB_iff (by omega)).mp q9.2)), Int.add_zero]; exact hR) | (rw [@sN_y _ a (b + 1) (by omega) (by omega) (by omega) ((alwB_iff (by omega)).mpr hal610), cnB_s, ← hR]; first | (rw [if_pos c655]) | (rw [if_neg c655]) | (rw [if_neg (by rw [c626, c631]; exact Int.lt_irrefl _)]))) (by omega)
                                                                    · skip
                                                                      refine x_aload dL_isBest_636 rfl (by first | decide | omega) ?_
                                                                      refine x_iload dL_isBest_638 rfl ?_
                                                                      refine x_iload dL_isBest_640 rfl ?_
                                                                      refine x_aload dL_isBest_642 rfl (by first | decide | omega) ?_
                                                                      refine x_iload dL_isBest_644 rfl ?_
                                                                      refine x_iload dL_isBest_646 rfl ?_
                                                                      refine x_aload dL_isBest_648 rfl (by first | decide | omega) ?_
                                                                      refine x_iconst dL_isBest_650 ?_
                                                                      refine x_ialdx (o := 47) (n := nn) (x := way D 0) dL_isBest_651 rfl hs47 (by omega) (by omega) ((congrFun (hF610.at (by omega) (by omega)) _).trans ((congrFun (hFJ2.at (by omega) (by omega)) _).trans ((congrFun (hF61.at (by omega) (by omega)) _).trans ((congrFun (hF491.at (by omega) (by omega)) _).trans ((congrFun (hF407.at (by omega) (by omega)) _).trans ((congrFun (hFJ1.at (by omega) (by omega)) _).trans (hW50 _ (by omega) (by omega)))))))) ?_
                                                                      have hr67 := way_b D 0
                                                                      refine x_callSP (as := [(2, 50), (0, a), (0, b), (2, 49), (0, l9), (0, r9), (0, way D 0)]) (rest := [(0, k)]) (k := 4) fL_isBest_652.g ⟨Nat.le_of_ble_eq_true rfl, Nat.le_of_ble_eq_true rfl⟩ ⟨show cc2 + 1 ≤ 30000 by omega, show 4 * (cc2 + 1) + 64 ≤ 130000 by omega⟩ xK_A (wf_gd hX51 hA51 ((GD.cg hD_61 (fun o h1 => ((hF610.at (by omega) (by omega)).trans (hFJ2.at (by omega) (by omega))))))) rfl rfl rfl rfl rfl (Nat.le_of_ble_eq_true rfl) ⟨fun _ => (by omega), ⟨nt_no (by decide), ⟨nt_no (by decide), ⟨fun _ => (by omega), ⟨nt_no (by decide), ⟨nt_no (by decide), ⟨nt_no (by decide), trivial⟩⟩⟩⟩⟩⟩⟩ (by decide) (show Wp (ax (ax (ax (ax (ax G (20, nn) q46) (20, nn) q47) (23, 4) qb) (23, 4) q491) (23, 4) q610) M_L_isAhead 0 [(2, 50), (0, a), (0, b), (2, 49), (0, l9), (0, r9), (0, way D 0), (9, 0), (9, 0), (9, 0), (9, 0)] [] μ610 (pP 0 (am_b (keyq D (a, b) < keyq D (l9, r9))) μ610) from (s_L_isAheadJ50 (ax (ax (ax (ax (ax G (20, nn) q46) (20, nn) q47) (23, 4) qb) (23, 4) q491) (23, 4) q610) D a b l9 r9 μ610 hok hs50 hs49 hJ610 (rowJ.cg hJ491 (fun o h1 => ((hF610.at (by omega) (by omega)).trans ((hFJ2.at (by omega) (by omega)).trans (hF61.at (by omega) (by omega)))))) hal610 hal491 (by omega) (by omega))) ?_
                                                                      have hf68 := am_b_r (keyq D (a, b) < keyq D (l9, r9))
                                                                      refine x_if_eq (tgt := 662) dL_isBest_655 rfl (R32.in (by have := am_b_r ((keyq D (a, b) < keyq D (l9, r9))); omega)) (fun c655 => ?_) (fun c655 => ?_)
                                                                      · skip
                                                                        replace c655 := am_b0 c655
                                                                        refine x_iconst dL_isBest_662 ?_
                                                                        refine x_iadd dL_isBest_663 ?_
                                                                        refine x_istore (ls' := [(2, 0), (3, 13), (2, 45), (0, dN D), (2, 46), (2, 47), (0, bl), (0, br), (0, al), (2, 48), (0, st), (0, l9), (0, r9), (2, 49), (0, k + 0), (0, a), (0, b), (2, 50)]) dL_isBest_664 (Nat.le_of_ble_eq_true rfl) rfl rfl ?_
                                                                        refine x_iinc (ls' := [(2, 0), (3, 13), (2, 45), (0, dN D), (2, 46), (2, 47), (0, bl), (0, br), (0, al), (2, 48), (0, st), (0, l9), (0, r9), (2, 49), (0, k + 0), (0, a), (0, b + 1), (2, 50)]) dL_isBest_666 rfl (Nat.le_of_ble_eq_true rfl) rfl rfl ?_
                                                                        refine x_goto (tgt := 585) dL_isBest_669 rfl ?_
                                                                        refine Gx.fgl (ls' := [(2, 0), (3, 13), (2, 45), (0, dN D), (2, 46), (2, 47), (0, bl), (0, br), (0, al), (2, 48), (0, st), (0, l9), (0, r9), (2, 49), (0, k + 0), (0, a), (0, b + 1), (9, 0)]) 17 rfl ?_
                                                                        refine Gx.drop (wf_gd hX50 hA50 ((GD.cg hD_61 (fun o h1 => ((hF610.at (by omega) (by omega)).trans (hFJ2.at (by omega) (by omega))))))) (by rw [hlen50]; exact ⟨fun _ => (by omega), ⟨nt_no (by decide), ⟨fun _ => (by omega), ⟨nt_no (by decide), ⟨fun _ => (by omega), ⟨fun _ => (by omega), ⟨nt_no (by decide), ⟨nt_no (by decide), ⟨nt_no (by decide), ⟨fun _ => (by omega), ⟨nt_no (by decide), ⟨nt_no (by decide), ⟨nt_no (by decide), ⟨fun _ => (by omega), ⟨nt_no (by decide), ⟨nt_no (by decide), ⟨nt_no (by decide), ⟨nt_no (by decide), trivial⟩⟩⟩⟩⟩⟩⟩⟩⟩⟩⟩⟩⟩⟩⟩⟩⟩⟩) (by rw [hlen50]; exact trivial) ?_
                                                                        exact (ihJ2 _ (by omega)).2.2.2.2.2 (k + 0) a (b + 1) (cc2 + 1) μ610 rfl ((hF610.wd (by omega) (by omega)).tr hFJ2) (by omega) (by omega) (by first | (rw [@sN_beg _ a (by omega)]; exact hR) | (rw [@sN_n _ a (b + 1) (by omega) (by omega) (fun q9 => hna610 ((alwB_iff (by omega)).mp q9.2)), Int.add_zero]; exact hR) | (rw [@sN_y _ a (b + 1) (by omega) (by omega) (by omega) ((alwB_iff (by omega)).mpr hal610), cnB_s, ← hR]; first | (rw [if_pos c655]) | (rw [if_neg c655]) | (rw [if_neg (by rw [c626, c631]; exact Int.lt_irrefl _)]))) (by omega)
                                                                      · skip
                                                                        replace c655 := am_b1 c655
                                                                        refine x_iconst dL_isBest_658 ?_
                                                                        refine x_goto (tgt := 663) dL_isBest_659 rfl ?_
                                                                        refine x_iadd dL_isBest_663 ?_
                                                                        refine x_istore (ls' := [(2, 0), (3, 13), (2, 45), (0, dN D), (2, 46), (2, 47), (0, bl), (0, br), (0, al), (2, 48), (0, st), (0, l9), (0, r9), (2, 49), (0, k + 1), (0, a), (0, b), (2, 50)]) dL_isBest_664 (Nat.le_of_ble_eq_true rfl) rfl rfl ?_
                                                                        refine x_iinc (ls' := [(2, 0), (3, 13), (2, 45), (0, dN D), (2, 46), (2, 47), (0, bl), (0, br), (0, al), (2, 48), (0, st), (0, l9), (0, r9), (2, 49), (0, k + 1), (0, a), (0, b + 1), (2, 50)]) dL_isBest_666 rfl (Nat.le_of_ble_eq_true rfl) rfl rfl ?_
                                                                        refine x_goto (tgt := 585) dL_isBest_669 rfl ?_
                                                                        refine Gx.fgl (ls' := [(2, 0), (3, 13), (2, 45), (0, dN D), (2, 46), (2, 47), (0, bl), (0, br), (0, al), (2, 48), (0, st), (0, l9), (0, r9), (2, 49), (0, k + 1), (0, a), (0, b + 1), (9, 0)]) 17 rfl ?_
                                                                        refine Gx.drop (wf_gd hX50 hA50 ((GD.cg hD_61 (fun o h1 => ((hF610.at (by omega) (by omega)).trans (hFJ2.at (by omega) (by omega))))))) (by rw [hlen50]; exact ⟨fun _ => (by omega), ⟨nt_no (by decide), ⟨fun _ => (by omega), ⟨nt_no (by decide), ⟨fun _ => (by omega), ⟨fun _ => (by omega), ⟨nt_no (by decide), ⟨nt_no (by decide), ⟨nt_no (by decide), ⟨fun _ => (by omega), ⟨nt_no (by decide), ⟨nt_no (by decide), ⟨nt_no (by decide), ⟨fun _ => (by omega), ⟨nt_no (by decide), ⟨nt_no (by decide), ⟨nt_no (by decide), ⟨nt_no (by decide), trivial⟩⟩⟩⟩⟩⟩⟩⟩⟩⟩⟩⟩⟩⟩⟩⟩⟩⟩) (by rw [hlen50]; exact trivial) ?_
                                                                        exact (ihJ2 _ (by omega)).2.2.2.2.2 (k + 1) a (b + 1) (cc2 + 1) μ610 rfl ((hF610.wd (by omega) (by omega)).tr hFJ2) (by omega) (by omega) (by first | (rw [@sN_beg _ a (by omega)]; exact hR) | (rw [@sN_n _ a (b + 1) (by omega) (by omega) (fun q9 => hna610 ((alwB_iff (by omega)).mp q9.2)), Int.add_zero]; exact hR) | (rw [@sN_y _ a (b + 1) (by omega) (by omega) (by omega) ((alwB_iff (by omega)).mpr hal610), cnB_s, ← hR]; first | (rw [if_pos c655]) | (rw [if_neg c655]) | (rw [if_neg (by rw [c626, c631]; exact Int.lt_irrefl _)]))) (by omega)
                                                        exact (hJ2 _).2.2.2.2 0 (-60) (cs9 + 1) μ_61 rfl Fr.rf (by omega) rfl (by omega)
                                                      · skip
                                                        exact c533 hu9
                                                  · skip
                                                    refine x_goto (tgt := 720) dL_isBest_478 rfl ?_
                                                    refine x_iinc (ls' := [(2, 0), (3, 13), (2, 45), (0, dN D), (2, 46), (2, 47), (0, bl), (0, br), (0, al), (2, 48), (0, st + 1), (0, l9), (0, r9), (9, 0), (9, 0), (9, 0), (9, 0), (9, 0)]) dL_isBest_720 rfl (Nat.le_of_ble_eq_true rfl) rfl rfl ?_
                                                    refine x_goto (tgt := 407) dL_isBest_723 rfl ?_
                                                    refine Gx.fgl (ls' := [(2, 0), (3, 13), (2, 45), (0, dN D), (2, 46), (2, 47), (0, bl), (0, br), (0, al), (2, 48), (0, st + 1), (9, 0), (0, r9), (9, 0), (9, 0), (9, 0), (9, 0), (9, 0)]) 11 rfl ?_
                                                    refine Gx.fgl (ls' := [(2, 0), (3, 13), (2, 45), (0, dN D), (2, 46), (2, 47), (0, bl), (0, br), (0, al), (2, 48), (0, st + 1), (9, 0), (9, 0), (9, 0), (9, 0), (9, 0), (9, 0), (9, 0)]) 12 rfl ?_
                                                    exact ih407 _ (by omega) (st + 1) cs9 μs rfl hF407 (by first | omega | assumption) (by first | omega | assumption)
                                          exact hL407 _ 0 cc μ_53 rfl ((hF53.wd (by omega) (by omega)).tr ((hF52.wd (by omega) (by omega)).tr ((hF51.wd (by omega) (by omega)).tr ((hF50.wd (by omega) (by omega)).tr ((hF49.wd (by omega) (by omega)).tr ((hF48.wd (by omega) (by omega)).tr ((hF47.wd (by omega) (by omega)).tr ((hF44.wd (by omega) (by omega)).tr ((hF18.wd (by omega) (by omega)).tr (hF188.wd (by omega) (by omega))))))))))) (by first | omega | assumption) (by first | omega | assumption)
                                        · skip
                                          exact c399 hb2
                            · skip
                              omega
                    · skip
                      refine x_aload_n dL_isBest_194 rfl rfl (by first | decide | omega) ?_
                      refine x_iload dL_isBest_195 rfl ?_
                      refine x_callVI (o := 0) (ci := 7) (as := [(0, i)]) (rest := []) (k := 0) (Gs := GG X) fL_isBest_197.g ⟨Nat.le_of_ble_eq_true rfl, Nat.le_of_ble_eq_true rfl⟩ ⟨show cc ≤ 30000 by omega, show 4 * (cc) + 64 ≤ 130000 by omega⟩ xK_A hX49 (wf_gd Xt.rf ARR_GG ((GD.cg hD (fun o h1 => ((hF188.at (by omega) (by omega)).trans ((hFJ1.at (by omega) (by omega)).trans ((hF50.at (by omega) (by omega)).trans (hF11.at (by omega) (by omega))))))))) rfl rfl rfl rfl rfl rfl rfl rfl (Nat.le_of_ble_eq_true rfl) ⟨nt_no (by decide), trivial⟩ (by decide) (q_direction X p D nn i μd (GD.cg hD (fun o h1 => ((hF188.at (by omega) (by omega)).trans ((hFJ1.at (by omega) (by omega)).trans ((hF50.at (by omega) (by omega)).trans (hF11.at (by omega) (by omega))))))) (by first | omega | assumption)) (fun x9 μ9 h9 => ⟨wf_gd Xt.rf ARR_GG h9.2.1, fun o ho => h9.1.at (by have h8 : (45 : Int) ≤ o := ho; omega) (by have h8 : (45 : Int) ≤ o := ho; omega)⟩) (fun x69 μ_69 hμ69 => ?_)
                      obtain ⟨hF69, hD_69, hz_69⟩ := hμ69
                      refine x_aload dL_isBest_200 rfl (by first | decide | omega) ?_
                      refine x_iload dL_isBest_202 rfl ?_
                      refine x_ialdx (o := 47) (n := nn) (x := way D i) dL_isBest_204 rfl hs47 (by omega) (by omega) ((congrFun (hF69.at (by omega) (by omega)) _).trans ((congrFun (hF188.at (by omega) (by omega)) _).trans ((congrFun (hFJ1.at (by omega) (by omega)) _).trans (hW50 _ (by omega) (by omega))))) ?_
                      have hr70 := way_b D i
                      refine x_icmp_ne (tgt := 221) dL_isBest_205 rfl (R32.in (by omega)) (R32.in (by omega)) (fun c205 => ?_) (fun c205 => ?_)
                      · skip
                        omega
                      · skip
                        refine x_aload_n dL_isBest_208 rfl rfl (by first | decide | omega) ?_
                        refine x_iload dL_isBest_209 rfl ?_
                        refine x_callVP (o := 0) (ci := 7) (as := [(0, i)]) (rest := []) (k := 0) (Gs := GG X) fL_isBest_211.g ⟨Nat.le_of_ble_eq_true rfl, Nat.le_of_ble_eq_true rfl⟩ ⟨show cc ≤ 30000 by omega, show 4 * (cc) + 64 ≤ 130000 by omega⟩ xK_A hX49 (wf_gd Xt.rf ARR_GG (hD_69)) rfl rfl rfl rfl rfl rfl rfl rfl (Nat.le_of_ble_eq_true rfl) ⟨nt_no (by decide), trivial⟩ (by decide) (q_position X p D nn i μ_69 hD_69 (by first | omega | assumption)) ?_
                        refine x_aload_n dL_isBest_214 rfl rfl (by first | decide | omega) ?_
                        refine x_iload dL_isBest_215 rfl ?_
                        refine x_ialdx (o := 45) (n := nn) (x := dH D i) dL_isBest_217 rfl hs45 (by omega) (by omega) ((congrFun (hF69.at (by omega) (by omega)) _).trans ((congrFun (hF188.at (by omega) (by omega)) _).trans ((congrFun (hFJ1.at (by omega) (by omega)) _).trans ((congrFun (hF50.at (by omega) (by omega)) _).trans (hLD.p (by omega)))))) ?_
                        have hr71 := (hLD.ok).hr (i := i) (by omega)
                        have hr72 := (hH.ok).hr (i := i) (by omega)
                        refine x_icmp_eq (tgt := 223) dL_isBest_218 rfl (R32.in (by omega)) (R32.in (by omega)) (fun c218 => ?_) (fun c218 => ?_)
                        · skip
                          refine x_iinc (ls' := [(2, 0), (3, 13), (2, 45), (0, dN D), (2, 46), (2, 47), (0, bl), (0, br), (0, al), (2, 48), (0, i + 1), (9, 0), (9, 0), (9, 0), (9, 0), (9, 0), (9, 0), (9, 0)]) dL_isBest_223 rfl (Nat.le_of_ble_eq_true rfl) rfl rfl ?_
                          refine x_goto (tgt := 188) dL_isBest_226 rfl ?_
                          exact ih188 _ (by omega) (i + 1) μ_69 rfl ((hF69.wd (by omega) (by omega)).tr hF188) (by first | omega | assumption)
                        · skip
                          omega
                exact hL188 _ 0 μa rfl Fr.rf (by first | omega | assumption)
              · skip
                refine x_bipush dL_isBest_78 (by decide) ?_
                refine x_iload dL_isBest_80 rfl ?_
                refine x_bipush dL_isBest_82 (by decide) ?_
                refine x_isub dL_isBest_84 ?_
                refine x_max fL_isBest_85 (R32.in (by decide)) (R32.in (by omega)) (Nat.le_of_ble_eq_true rfl) ⟨Nat.le_of_ble_eq_true rfl, Nat.le_of_ble_eq_true rfl, show cc ≤ 30000 by omega, show 4 * (cc) + 64 ≤ 130000 by omega⟩ ?_
                refine x_istore (ls' := [(2, 0), (3, 13), (2, 45), (0, dN D), (2, 46), (2, 47), (0, bl), (0, br), (0, al), (2, 48), (0, l), (0, max (-60) (l - 8)), (9, 0), (9, 0), (9, 0), (9, 0), (9, 0), (9, 0)]) dL_isBest_88 (Nat.le_of_ble_eq_true rfl) rfl rfl ?_
                exact (ihJ1 _ (by omega)).2.2.2 l (max (-60) (l - 8)) al bl br cc qb μa rfl hFJ1 (by omega) (by omega) (by first | (rw [@sN_beg _ l (by omega)]; exact hY) | rw [@sN_n _ l (max (-60) (l - 8)) (by omega) (by omega) (fun q9 => hna115 ((alwB_iff (by omega)).mp q9.2))]; exact hY | rw [@sN_y _ l (max (-60) (l - 8)) (by omega) (by omega) (by omega) ((alwB_iff (by omega)).mpr hal115)]; first | exact fn_1 hN | exact fn_b hY c155 | exact fn_n hY c155) hJb (by omega)
            · intro l r al bl br cc qb μa hnJ1 hFJ1 hl hr hY hJb hcc
              have hlen49 : (gS (ax (ax (ax G (20, nn) q46) (20, nn) q47) (23, 4) qb)).length = 49 := (by rw [ax_len, hlen48])
              have hX49 : Xt (GG X) (ax (ax (ax G (20, nn) q46) (20, nn) q47) (23, 4) qb) := hX48.tr (Xt.ax (ax (ax G (20, nn) q46) (20, nn) q47) (23, 4) qb)
              have hA49 : ARR (ax (ax (ax G (20, nn) q46) (20, nn) q47) (23, 4) qb) := hA48.ax (Nat.le_of_ble_eq_true rfl)
              have hs45 := (Xt.ax (ax (ax G (20, nn) q46) (20, nn) q47) (23, 4) qb).sh hs45
              have hs46 := (Xt.ax (ax (ax G (20, nn) q46) (20, nn) q47) (23, 4) qb).sh hs46
              have hs47 := (Xt.ax (ax (ax G (20, nn) q46) (20, nn) q47) (23, 4) qb).sh hs47
              have hs48 : (gS (ax (ax (ax G (20, nn) q46) (20, nn) q47) (23, 4) qb))[48]? = some (23, 4) := (by have h9 := @ax_sh (ax (ax G (20, nn) q46) (20, nn) q47) (23, 4) qb; rw [hlen48] at h9; exact h9)
              have hB := sN_mem hok (by omega) (by omega) hY.2.1
              have hB2 : (-60 ≤ bl ∧ bl ≤ 60) ∧ (-60 ≤ br ∧ br ≤ 60) ∧ (-8 ≤ br - bl ∧ br - bl ≤ 8) := (by have h9 := hB.1; unfold inS inL at h9; simp only at h9; omega)
              have hB3 : alw D (br - bl) bl := hB.2
              refine x_iload dL_isBest_90 rfl ?_
              refine x_bipush dL_isBest_92 (by decide) ?_
              refine x_iload dL_isBest_94 rfl ?_
              refine x_bipush dL_isBest_96 (by decide) ?_
              refine x_iadd dL_isBest_98 ?_
              refine x_min fL_isBest_99 (R32.in (by decide)) (R32.in (by omega)) (Nat.le_of_ble_eq_true rfl) ⟨Nat.le_of_ble_eq_true rfl, Nat.le_of_ble_eq_true rfl, show cc ≤ 30000 by omega, show 4 * (cc) + 64 ≤ 130000 by omega⟩ ?_
              refine x_icmp_gt (tgt := 179) dL_isBest_102 rfl (R32.in (by omega)) (R32.in (by omega)) (fun c102 => ?_) (fun c102 => ?_)
              · skip
                refine x_iinc (ls' := [(2, 0), (3, 13), (2, 45), (0, dN D), (2, 46), (2, 47), (0, bl), (0, br), (0, al), (2, 48), (0, l + 1), (0, r), (9, 0), (9, 0), (9, 0), (9, 0), (9, 0), (9, 0)]) dL_isBest_179 rfl (Nat.le_of_ble_eq_true rfl) rfl rfl ?_
                refine x_goto (tgt := 71) dL_isBest_182 rfl ?_
                refine Gx.fgl (ls' := [(2, 0), (3, 13), (2, 45), (0, dN D), (2, 46), (2, 47), (0, bl), (0, br), (0, al), (2, 48), (0, l + 1), (9, 0), (9, 0), (9, 0), (9, 0), (9, 0), (9, 0), (9, 0)]) 11 rfl ?_
                exact (ihJ1 _ (by omega)).2.2.1 (l + 1) al bl br cc qb μa rfl hFJ1 (by omega) (by rw [@sN_row _ (l + 1) r (by omega) (by omega) (by intro x h1 h2; omega)]; exact hY) hJb (by omega)
              · skip
                refine x_aload_nS dL_isBest_105 rfl rfl ?_
                refine x_aload_n dL_isBest_106 rfl rfl (by first | decide | omega) ?_
                refine x_aload dL_isBest_107 rfl (by first | decide | omega) ?_
                refine x_aload dL_isBest_109 rfl (by first | decide | omega) ?_
                refine x_iload dL_isBest_111 rfl ?_
                refine x_iload dL_isBest_113 rfl ?_
                refine x_callSX (as := [(3, 13), (2, 45), (2, 47), (2, 46), (0, l), (0, r)]) (rest := []) (k := 19) (mc := 1) (ms := 4) (P := (judP D l r 49 (ax (ax (ax G (20, nn) q46) (20, nn) q47) (23, 4) qb) μa)) fL_isBest_115.g ⟨Nat.le_of_ble_eq_true rfl, Nat.le_of_ble_eq_true rfl⟩ ⟨show cc + 1 ≤ 30000 by omega, show 4 * (cc) + 64 + 4 ≤ 130000 by omega⟩ xK_A (wf_gd hX49 hA49 ((GD.cg hD (fun o h1 => ((hFJ1.at (by omega) (by omega)).trans ((hF50.at (by omega) (by omega)).trans (hF11.at (by omega) (by omega)))))))) rfl rfl rfl rfl rfl (Nat.le_of_ble_eq_true rfl) (by rw [hlen49]; exact ⟨fun _ => (by omega), ⟨nt_no (by decide), ⟨fun _ => (by omega), ⟨nt_no (by decide), ⟨fun _ => (by omega), ⟨fun _ => (by omega), ⟨nt_no (by decide), ⟨nt_no (by decide), ⟨nt_no (by decide), ⟨fun _ => (by omega), ⟨nt_no (by decide), ⟨nt_no (by decide), ⟨nt_no (by decide), ⟨nt_no (by decide), ⟨nt_no (by decide), ⟨nt_no (by decide), ⟨nt_no (by decide), ⟨nt_no (by decide), trivial⟩⟩⟩⟩⟩⟩⟩⟩⟩⟩⟩⟩⟩⟩⟩⟩⟩⟩) (by rw [hlen49]; exact trivial) (s_L_judged (ax (ax (ax G (20, nn) q46) (20, nn) q47) (23, 4) qb) D nn 49 l r μa hlen49 (by decide) hs45 hs46 hs47 (wf_gd hX49 hA49 ((GD.cg hD (fun o h1 => ((hFJ1.at (by omega) (by omega)).trans ((hF50.at (by omega) (by omega)).trans (hF11.at (by omega) (by omega)))))))) (LD.cg hLD (fun o h1 => ((hFJ1.at (by omega) (by omega)).trans (hF50.at (by omega) (by omega))))) (LW.cg hW50 (fun o h1 => (hFJ1.at (by omega) (by omega)))) (by omega)) (fun G115 r115 μ115 hp115 hx115 => ?_)
                rcases hp115 with ⟨hna115, rfl, rfl, rfl⟩ | ⟨hal115, q115, rfl, rfl, hv115, ho115⟩
                · skip
                  refine Gx.cg (ls' := [(2, 0), (3, 13), (2, 45), (0, dN D), (2, 46), (2, 47), (0, bl), (0, br), (0, al), (2, 48), (0, l), (0, r), (9, 0), (9, 0), (9, 0), (9, 0), (9, 0), (9, 0)]) (st' := [(2, -1)]) (μ' := μa) ?_ rfl rfl rfl
                  refine Gx.widen (cs2 := cc + 1) (ss2 := 4 * (cc + 1) + 64) (by omega) (by omega) ?_
                  refine x_astoreN (ls' := [(2, 0), (3, 13), (2, 45), (0, dN D), (2, 46), (2, 47), (0, bl), (0, br), (0, al), (2, 48), (0, l), (0, r), (2, -1), (9, 0), (9, 0), (9, 0), (9, 0), (9, 0)]) dL_isBest_118 (Nat.le_of_ble_eq_true rfl) rfl rfl ?_
                  refine x_aloadN dL_isBest_120 rfl ?_
                  refine x_ifnonnull_n dL_isBest_122 ?_
                  refine x_goto (tgt := 173) dL_isBest_125 rfl ?_
                  refine x_iinc (ls' := [(2, 0), (3, 13), (2, 45), (0, dN D), (2, 46), (2, 47), (0, bl), (0, br), (0, al), (2, 48), (0, l), (0, r + 1), (2, -1), (9, 0), (9, 0), (9, 0), (9, 0), (9, 0)]) dL_isBest_173 rfl (Nat.le_of_ble_eq_true rfl) rfl rfl ?_
                  refine x_goto (tgt := 90) dL_isBest_176 rfl ?_
                  refine Gx.fgl (ls' := [(2, 0), (3, 13), (2, 45), (0, dN D), (2, 46), (2, 47), (0, bl), (0, br), (0, al), (2, 48), (0, l), (0, r + 1), (9, 0), (9, 0), (9, 0), (9, 0), (9, 0), (9, 0)]) 12 rfl ?_
                  exact (ihJ1 _ (by omega)).2.2.2 l (r + 1) al bl br (cc + 1) qb μa rfl hFJ1 (by omega) (by omega) (by first | (rw [@sN_beg _ l (by omega)]; exact hY) | rw [@sN_n _ l (r + 1) (by omega) (by omega) (fun q9 => hna115 ((alwB_iff (by omega)).mp q9.2))]; exact hY | rw [@sN_y _ l (r + 1) (by omega) (by omega) (by omega) ((alwB_iff (by omega)).mpr hal115)]; first | exact fn_1 hN | exact fn_b hY c155 | exact fn_n hY c155) hJb (by omega)
                · skip
                  refine Gx.cg (ls' := [(2, 0), (3, 13), (2, 45), (0, dN D), (2, 46), (2, 47), (0, bl), (0, br), (0, al), (2, 48), (0, l), (0, r), (9, 0), (9, 0), (9, 0), (9, 0), (9, 0), (9, 0)]) (st' := [(2, 49)]) (μ' := μ115) ?_ rfl rfl rfl
                  refine Gx.widen (cs2 := cc + 1) (ss2 := 4 * (cc + 1) + 64) (by omega) (by omega) ?_
                  have hF115 : Fr 49 49 1 0 μ115 μa := (fun o h1 h2 => ho115 o (by omega))
                  have hJ115 : rowJ μ115 49 D l r := hv115
                  have hlen50 : (gS (ax (ax (ax (ax G (20, nn) q46) (20, nn) q47) (23, 4) qb) (23, 4) q115)).length = 50 := (by rw [ax_len, hlen49])
                  have hX50 : Xt (GG X) (ax (ax (ax (ax G (20, nn) q46) (20, nn) q47) (23, 4) qb) (23, 4) q115) := hX49.tr (Xt.ax (ax (ax (ax G (20, nn) q46) (20, nn) q47) (23, 4) qb) (23, 4) q115)
                  have hA50 : ARR (ax (ax (ax (ax G (20, nn) q46) (20, nn) q47) (23, 4) qb) (23, 4) q115) := hA49.ax (Nat.le_of_ble_eq_true rfl)
                  have hs45 := (Xt.ax (ax (ax (ax G (20, nn) q46) (20, nn) q47) (23, 4) qb) (23, 4) q115).sh hs45
                  have hs46 := (Xt.ax (ax (ax (ax G (20, nn) q46) (20, nn) q47) (23, 4) qb) (23, 4) q115).sh hs46
                  have hs47 := (Xt.ax (ax (ax (ax G (20, nn) q46) (20, nn) q47) (23, 4) qb) (23, 4) q115).sh hs47
                  have hs48 := (Xt.ax (ax (ax (ax G (20, nn) q46) (20, nn) q47) (23, 4) qb) (23, 4) q115).sh hs48
                  have hs49 : (gS (ax (ax (ax (ax G (20, nn) q46) (20, nn) q47) (23, 4) qb) (23, 4) q115))[49]? = some (23, 4) := (by have h9 := @ax_sh (ax (ax (ax G (20, nn) q46) (20, nn) q47) (23, 4) qb) (23, 4) q115; rw [hlen49] at h9; exact h9)
                  refine x_astore (ls' := [(2, 0), (3, 13), (2, 45), (0, dN D), (2, 46), (2, 47), (0, bl), (0, br), (0, al), (2, 48), (0, l), (0, r), (2, 49), (9, 0), (9, 0), (9, 0), (9, 0), (9, 0)]) dL_isBest_118 (Nat.le_of_ble_eq_true rfl) rfl (by first | decide | omega) rfl ?_
                  refine x_aload dL_isBest_120 rfl (by first | decide | omega) ?_
                  refine x_ifnonnull_r (tgt := 128) dL_isBest_122 rfl (by omega) ?_
                  refine x_iinc (ls' := [(2, 0), (3, 13), (2, 45), (0, dN D), (2, 46), (2, 47), (0, bl), (0, br), (0, al + 1), (2, 48), (0, l), (0, r), (2, 49), (9, 0), (9, 0), (9, 0), (9, 0), (9, 0)]) dL_isBest_128 rfl (Nat.le_of_ble_eq_true rfl) rfl rfl ?_
                  refine x_aload dL_isBest_131 rfl (by first | decide | omega) ?_
                  refine x_ifnull_r dL_isBest_133 (by omega) ?_
                  refine x_aload dL_isBest_136 rfl (by first | decide | omega) ?_
                  refine x_iload dL_isBest_138 rfl ?_
                  refine x_iload dL_isBest_140 rfl ?_
                  refine x_aload dL_isBest_142 rfl (by first | decide | omega) ?_
                  refine x_iload dL_isBest_144 rfl ?_
                  refine x_iload dL_isBest_146 rfl ?_
                  refine x_aload dL_isBest_148 rfl (by first | decide | omega) ?_
                  refine x_iconst dL_isBest_150 ?_
                  refine x_ialdx (o := 47) (n := nn) (x := way D 0) dL_isBest_151 rfl hs47 (by omega) (by omega) ((congrFun (hF115.at (by omega) (by omega)) _).trans ((congrFun (hFJ1.at (by omega) (by omega)) _).trans (hW50 _ (by omega) (by omega)))) ?_
                  have hr73 := way_b D 0
                  refine x_callSP (as := [(2, 49), (0, l), (0, r), (2, 48), (0, bl), (0, br), (0, way D 0)]) (rest := []) (k := 4) fL_isBest_152.g ⟨Nat.le_of_ble_eq_true rfl, Nat.le_of_ble_eq_true rfl⟩ ⟨show cc + 1 ≤ 30000 by omega, show 4 * (cc + 1) + 64 ≤ 130000 by omega⟩ xK_A (wf_gd hX50 hA50 ((GD.cg hD (fun o h1 => ((hF115.at (by omega) (by omega)).trans ((hFJ1.at (by omega) (by omega)).trans ((hF50.at (by omega) (by omega)).trans (hF11.at (by omega) (by omega))))))))) rfl rfl rfl rfl rfl (Nat.le_of_ble_eq_true rfl) ⟨fun _ => (by omega), ⟨nt_no (by decide), ⟨nt_no (by decide), ⟨fun _ => (by omega), ⟨nt_no (by decide), ⟨nt_no (by decide), ⟨nt_no (by decide), trivial⟩⟩⟩⟩⟩⟩⟩ (by decide) (show Wp (ax (ax (ax (ax G (20, nn) q46) (20, nn) q47) (23, 4) qb) (23, 4) q115) M_L_isAhead 0 [(2, 49), (0, l), (0, r), (2, 48), (0, bl), (0, br), (0, way D 0), (9, 0), (9, 0), (9, 0), (9, 0)] [] μ115 (pP 0 (am_b (keyq D (l, r) < keyq D (bl, br))) μ115) from (s_L_isAheadJ49 (ax (ax (ax (ax G (20, nn) q46) (20, nn) q47) (23, 4) qb) (23, 4) q115) D l r bl br μ115 hok hs49 hs48 hJ115 (rowJ.cg hJb (fun o h1 => (hF115.at (by omega) (by omega)))) hal115 hB3 (by omega) (by omega))) ?_
                  have hf74 := am_b_r (keyq D (l, r) < keyq D (bl, br))
                  refine x_if_ne (tgt := 161) dL_isBest_155 rfl (R32.in (by have := am_b_r ((keyq D (l, r) < keyq D (bl, br))); omega)) (fun c155 => ?_) (fun c155 => ?_)
                  · skip
                    replace c155 := am_b1 c155
                    refine x_aload dL_isBest_161 rfl (by first | decide | omega) ?_
                    refine x_astore (ls' := [(2, 0), (3, 13), (2, 45), (0, dN D), (2, 46), (2, 47), (0, bl), (0, br), (0, al + 1), (2, 49), (0, l), (0, r), (2, 49), (9, 0), (9, 0), (9, 0), (9, 0), (9, 0)]) dL_isBest_163 (Nat.le_of_ble_eq_true rfl) rfl (by first | decide | omega) rfl ?_
                    refine x_iload dL_isBest_165 rfl ?_
                    refine x_istore (ls' := [(2, 0), (3, 13), (2, 45), (0, dN D), (2, 46), (2, 47), (0, l), (0, br), (0, al + 1), (2, 49), (0, l), (0, r), (2, 49), (9, 0), (9, 0), (9, 0), (9, 0), (9, 0)]) dL_isBest_167 (Nat.le_of_ble_eq_true rfl) rfl rfl ?_
                    refine x_iload dL_isBest_169 rfl ?_
                    refine x_istore (ls' := [(2, 0), (3, 13), (2, 45), (0, dN D), (2, 46), (2, 47), (0, l), (0, r), (0, al + 1), (2, 49), (0, l), (0, r), (2, 49), (9, 0), (9, 0), (9, 0), (9, 0), (9, 0)]) dL_isBest_171 (Nat.le_of_ble_eq_true rfl) rfl rfl ?_
                    refine x_iinc (ls' := [(2, 0), (3, 13), (2, 45), (0, dN D), (2, 46), (2, 47), (0, l), (0, r), (0, al + 1), (2, 49), (0, l), (0, r + 1), (2, 49), (9, 0), (9, 0), (9, 0), (9, 0), (9, 0)]) dL_isBest_173 rfl (Nat.le_of_ble_eq_true rfl) rfl rfl ?_
                    refine x_goto (tgt := 90) dL_isBest_176 rfl ?_
                    refine Gx.fgl (ls' := [(2, 0), (3, 13), (2, 45), (0, dN D), (2, 46), (2, 47), (0, l), (0, r), (0, al + 1), (2, 49), (0, l), (0, r + 1), (9, 0), (9, 0), (9, 0), (9, 0), (9, 0), (9, 0)]) 12 rfl ?_
                    refine Gx.take (B := (ax (ax G (20, nn) q46) (20, nn) q47)) (x := (23, 4)) (q1 := qb) (q2 := q115) (n := 48) (ls2 := [(2, 0), (3, 13), (2, 45), (0, dN D), (2, 46), (2, 47), (0, l), (0, r), (0, al + 1), (2, 48), (0, l), (0, r + 1), (9, 0), (9, 0), (9, 0), (9, 0), (9, 0), (9, 0)]) (wf_gd hX48 hA48 ((GD.cg hD (fun o h1 => ((hF115.at (by omega) (by omega)).trans ((hFJ1.at (by omega) (by omega)).trans ((hF50.at (by omega) (by omega)).trans (hF11.at (by omega) (by omega))))))))) hlen48 (by decide) ⟨fun _ => ⟨by decide, take_c1 hlen48 (fun _ => by decide)⟩, ⟨fun _ => ⟨by decide, rfl⟩, ⟨fun _ => ⟨by decide, take_c1 hlen48 (fun _ => by decide)⟩, ⟨fun _ => ⟨by decide, rfl⟩, ⟨fun _ => ⟨by decide, take_c1 hlen48 (fun _ => by decide)⟩, ⟨fun _ => ⟨by decide, take_c1 hlen48 (fun _ => by decide)⟩, ⟨fun _ => ⟨by decide, rfl⟩, ⟨fun _ => ⟨by decide, rfl⟩, ⟨fun _ => ⟨by decide, rfl⟩, ⟨fun _ => ⟨by decide, take_c2 hlen48 rfl rfl⟩, ⟨fun _ => ⟨by decide, rfl⟩, ⟨fun _ => ⟨by decide, rfl⟩, ⟨fun h => absurd h (by decide), ⟨fun h => absurd h (by decide), ⟨fun h => absurd h (by decide), ⟨fun h => absurd h (by decide), ⟨fun h => absurd h (by decide), ⟨fun h => absurd h (by decide), trivial⟩⟩⟩⟩⟩⟩⟩⟩⟩⟩⟩⟩⟩⟩⟩⟩⟩⟩ ?_
                    refine Gx.mu (fun μt hμt => ?_)
                    have hFt : Fr 48 48 1 0 μt μ115 := (by rw [hμt]; exact fun o h1 h2 => am_mv_o (by omega))
                    have hJt : rowJ μt 48 D l r := (by have h9 : μt 48 = μ115 49 := (by rw [hμt]; exact am_mv_at); unfold rowJ; rw [h9]; exact hJ115)
                    clear hμt
                    exact (ihJ1 _ (by omega)).2.2.2 l (r + 1) (al + 1) l r (cc + 1) q115 μt rfl ((hFt.wd (by omega) (by omega)).tr ((hF115.wd (by omega) (by omega)).tr hFJ1)) (by omega) (by omega) (by first | (rw [@sN_beg _ l (by omega)]; exact hY) | rw [@sN_n _ l (r + 1) (by omega) (by omega) (fun q9 => hna115 ((alwB_iff (by omega)).mp q9.2))]; exact hY | rw [@sN_y _ l (r + 1) (by omega) (by omega) (by omega) ((alwB_iff (by omega)).mpr hal115)]; first | exact fn_1 hN | exact fn_b hY c155 | exact fn_n hY c155) hJt (by omega)
                  · skip
                    replace c155 := am_b0 c155
                    refine x_goto (tgt := 173) dL_isBest_158 rfl ?_
                    refine x_iinc (ls' := [(2, 0), (3, 13), (2, 45), (0, dN D), (2, 46), (2, 47), (0, bl), (0, br), (0, al + 1), (2, 48), (0, l), (0, r + 1), (2, 49), (9, 0), (9, 0), (9, 0), (9, 0), (9, 0)]) dL_isBest_173 rfl (Nat.le_of_ble_eq_true rfl) rfl rfl ?_
                    refine x_goto (tgt := 90) dL_isBest_176 rfl ?_
                    refine Gx.fgl (ls' := [(2, 0), (3, 13), (2, 45), (0, dN D), (2, 46), (2, 47), (0, bl), (0, br), (0, al + 1), (2, 48), (0, l), (0, r + 1), (9, 0), (9, 0), (9, 0), (9, 0), (9, 0), (9, 0)]) 12 rfl ?_
                    refine Gx.drop (wf_gd hX49 hA49 ((GD.cg hD (fun o h1 => ((hF115.at (by omega) (by omega)).trans ((hFJ1.at (by omega) (by omega)).trans ((hF50.at (by omega) (by omega)).trans (hF11.at (by omega) (by omega))))))))) (by rw [hlen49]; exact ⟨fun _ => (by omega), ⟨nt_no (by decide), ⟨fun _ => (by omega), ⟨nt_no (by decide), ⟨fun _ => (by omega), ⟨fun _ => (by omega), ⟨nt_no (by decide), ⟨nt_no (by decide), ⟨nt_no (by decide), ⟨fun _ => (by omega), ⟨nt_no (by decide), ⟨nt_no (by decide), ⟨nt_no (by decide), ⟨nt_no (by decide), ⟨nt_no (by decide), ⟨nt_no (by decide), ⟨nt_no (by decide), ⟨nt_no (by decide), trivial⟩⟩⟩⟩⟩⟩⟩⟩⟩⟩⟩⟩⟩⟩⟩⟩⟩⟩) (by rw [hlen49]; exact trivial) ?_
                    exact (ihJ1 _ (by omega)).2.2.2 l (r + 1) (al + 1) bl br (cc + 1) qb μ115 rfl ((hF115.wd (by omega) (by omega)).tr hFJ1) (by omega) (by omega) (by first | (rw [@sN_beg _ l (by omega)]; exact hY) | rw [@sN_n _ l (r + 1) (by omega) (by omega) (fun q9 => hna115 ((alwB_iff (by omega)).mp q9.2))]; exact hY | rw [@sN_y _ l (r + 1) (by omega) (by omega) (by omega) ((alwB_iff (by omega)).mpr hal115)]; first | exact fn_1 hN | exact fn_b hY c155 | exact fn_n hY c155) (rowJ.cg hJb (fun o h1 => (hF115.at (by omega) (by omega)))) (by omega)
        exact (hJ1 _).1 (-60) 0 2 μ50 rfl Fr.rf (by omega) ⟨sN_0, rfl⟩ (by omega)
      · skip
        refine x_aload dL_isBest_17 rfl (by first | decide | omega) ?_
        refine x_iload dL_isBest_19 rfl ?_
        refine x_aload dL_isBest_21 rfl (by first | decide | omega) ?_
        refine x_iload dL_isBest_23 rfl ?_
        refine x_iconst dL_isBest_25 ?_
        refine x_isub dL_isBest_26 ?_
        refine x_ialdx (o := 46) (n := nn) (x := dX D (i - 1)) dL_isBest_27 rfl hs46 (by omega) (by omega) (hx _ (by omega) (by omega)) ?_
        have hr75 := hok.xs (i := (i - 1)) (by omega)
        refine x_aload_nS dL_isBest_28 rfl rfl ?_
        refine x_aload_nS dL_isBest_29 rfl rfl ?_
        refine x_iload dL_isBest_30 rfl ?_
        refine x_iconst dL_isBest_32 ?_
        refine x_isub dL_isBest_33 ?_
        refine x_callSP (as := [(3, 13), (0, i - 1)]) (rest := [(3, 13), (0, dX D (i - 1)), (0, i), (2, 46)]) (k := 0) fL_isBest_34.g ⟨Nat.le_of_ble_eq_true rfl, Nat.le_of_ble_eq_true rfl⟩ ⟨show 1 ≤ 30000 by omega, show 4 * (1) + 64 ≤ 130000 by omega⟩ xK_A (wf_gd hX47 hA47 ((GD.cg hD (fun o h1 => (hF11.at (by omega) (by omega)))))) rfl rfl rfl rfl rfl (Nat.le_of_ble_eq_true rfl) ⟨nt_no (by decide), ⟨nt_no (by decide), trivial⟩⟩ (by decide) (show Wp (ax G (20, nn) q46) M_L_kind 0 [(3, 13), (0, i - 1)] [] μ1 (pP 0 (lkd G (i - 1)) μ1) from (s_L_kind (ax G (20, nn) q46) (i - 1) μ1 hk4 (by first | omega | assumption))) ?_
        have hf76 := lkd_r G (i - 1)
        refine x_callSP (as := [(3, 13), (0, lkd G (i - 1))]) (rest := [(0, dX D (i - 1)), (0, i), (2, 46)]) (k := 0) fL_isBest_37.g ⟨Nat.le_of_ble_eq_true rfl, Nat.le_of_ble_eq_true rfl⟩ ⟨show 1 ≤ 30000 by omega, show 4 * (1) + 64 ≤ 130000 by omega⟩ xK_A (wf_gd hX47 hA47 ((GD.cg hD (fun o h1 => (hF11.at (by omega) (by omega)))))) rfl rfl rfl rfl rfl (Nat.le_of_ble_eq_true rfl) ⟨nt_no (by decide), ⟨nt_no (by decide), trivial⟩⟩ (by decide) (show Wp (ax G (20, nn) q46) M_L_wide 0 [(3, 13), (0, lkd G (i - 1))] [] μ1 (pP 0 (lwd G (lkd G (i - 1))) μ1) from (s_L_wide (ax G (20, nn) q46) (lkd G (i - 1)) μ1 hk4 (by first | omega | assumption))) ?_
        have hf77 := lwd_r G (lkd G (i - 1))
        refine x_iadd dL_isBest_40 ?_
        refine x_iast (o := 46) (n := nn) dL_isBest_41 rfl hs46 (by omega) (by omega) (by omega) ?_
        refine x_iinc (ls' := [(2, 0), (3, 13), (2, 45), (0, dN D), (2, 46), (0, i + 1), (9, 0), (9, 0), (9, 0), (9, 0), (9, 0), (9, 0), (9, 0), (9, 0), (9, 0), (9, 0), (9, 0), (9, 0)]) dL_isBest_42 rfl (Nat.le_of_ble_eq_true rfl) rfl rfl ?_
        refine x_goto (tgt := 11) dL_isBest_45 rfl ?_
        exact ih11 _ (by omega) (i + 1) (am_up μ1 46 i ((dX D (i - 1)) + (lwd G (lkd G (i - 1))))) rfl (hF11.up (by omega)) (by first | omega | assumption) (fillr hx (by have h9 := hxx (i - 1) (by omega) (by omega); rw [show i - 1 + 1 = i by omega] at h9; omega))
  exact hL11 _ 1 μn46 rfl hFμn46 (by first | omega | assumption) (fun j h1 h2 => by rw [show j = 0 by omega, hz46, hok.2.2.1])
