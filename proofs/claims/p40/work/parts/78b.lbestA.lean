set_option maxRecDepth 100000 in
set_option maxHeartbeats 4000000 in
theorem s_L_isBest (G : AG) (X : AX) (p : Int) (D : GDt) (nn : Nat) (μ : Mu) (hlen46 : (gS G).length = 46) (hX46 : Xt (GG X) G) (hA46 : ARR G) (hs45 : (gS G)[45]? = some (20, nn)) (hD : GD μ p D nn) (hH : LH G D nn μ) (hbx : ∀ i : Int, 0 ≤ i → i < dN D → lkd G i = dB D i) (hxx : ∀ i : Int, 0 ≤ i → i + 1 < dN D → dX D (i + 1) = dX D i + lwd G (lkd G i)) : Gx (xK G M_L_isBest 30000 130000 (ibP G μ)) G M_L_isBest 0 0 0 [(2, 0), (3, 13), (2, 45), (9, 0), (9, 0), (9, 0), (9, 0), (9, 0), (9, 0), (9, 0), (9, 0), (9, 0), (9, 0), (9, 0), (9, 0), (9, 0), (9, 0), (9, 0)] [] μ := by
  have hok := hH.ok
  have hsp := hok.sp
  have hspx : dX D (dN D - 1) = spn D := rfl
  have hcn := cnD_b D
  have hn := hok.n
  have hnn := hH.n_n
  have hk4 := hH.kn.2
  have hpp := hD.at
  refine x_aload_n dL_isBest_0 rfl rfl (by first | decide | omega) ?_
  refine x_alen (o := 45) (n := nn) (t := 0) (f := nn) dL_isBest_1 rfl hs45 (Nat.le_of_ble_eq_true rfl) rfl ?_
  refine Gx.topE (b := dN D) hnn.1 ?_
  refine x_istore_n (ls' := [(2, 0), (3, 13), (2, 45), (0, dN D), (9, 0), (9, 0), (9, 0), (9, 0), (9, 0), (9, 0), (9, 0), (9, 0), (9, 0), (9, 0), (9, 0), (9, 0), (9, 0), (9, 0)]) dL_isBest_2 rfl (Nat.le_of_ble_eq_true rfl) rfl rfl ?_
  refine x_iload_n dL_isBest_3 rfl rfl ?_
  refine x_newaI (N := nn) xK_A ⟨show 0 + 1 ≤ 30000 by omega, show 0 + nn ≤ 130000 by omega⟩ dL_isBest_4 k_97 (by omega) (by omega) (wf_gd hX46 hA46 (hD)) (by rw [hlen46]; exact ⟨fun _ => (by omega), ⟨nt_no (by decide), ⟨fun _ => (by omega), ⟨nt_no (by decide), ⟨nt_no (by decide), ⟨nt_no (by decide), ⟨nt_no (by decide), ⟨nt_no (by decide), ⟨nt_no (by decide), ⟨nt_no (by decide), ⟨nt_no (by decide), ⟨nt_no (by decide), ⟨nt_no (by decide), ⟨nt_no (by decide), ⟨nt_no (by decide), ⟨nt_no (by decide), ⟨nt_no (by decide), ⟨nt_no (by decide), trivial⟩⟩⟩⟩⟩⟩⟩⟩⟩⟩⟩⟩⟩⟩⟩⟩⟩⟩) (by rw [hlen46]; exact trivial) (fun q46 => ?_)
  rw [hlen46]
  refine Gx.cg (ls' := [(2, 0), (3, 13), (2, 45), (0, dN D), (9, 0), (9, 0), (9, 0), (9, 0), (9, 0), (9, 0), (9, 0), (9, 0), (9, 0), (9, 0), (9, 0), (9, 0), (9, 0), (9, 0)]) (st' := [(2, 46)]) (μ' := am_nw μ 46) ?_ rfl rfl rfl
  refine Gx.mu (fun μn46 hμn46 => ?_)
  have hFμn46 : Fr 46 46 1 0 μn46 μ := (by subst hμn46; exact fun o h1 h2 => am_nw_o (by omega))
  have hz46 : ∀ k : Int, μn46 46 k = 0 := (by subst hμn46; intro k; simp [am_nw])
  clear hμn46
  refine Gx.widen (cs2 := 1) (ss2 := 4 * (1) + 64) (by omega) (by omega) ?_
  have hlen47 : (gS (ax G (20, nn) q46)).length = 47 := (by rw [ax_len, hlen46])
  have hX47 : Xt (GG X) (ax G (20, nn) q46) := hX46.tr (Xt.ax G (20, nn) q46)
  have hA47 : ARR (ax G (20, nn) q46) := hA46.ax (Nat.le_of_ble_eq_true rfl)
  have hs45 := (Xt.ax G (20, nn) q46).sh hs45
  have hs46 : (gS (ax G (20, nn) q46))[46]? = some (20, nn) := (by have h9 := @ax_sh G (20, nn) q46; rw [hlen46] at h9; exact h9)
  refine x_astore (ls' := [(2, 0), (3, 13), (2, 45), (0, dN D), (2, 46), (9, 0), (9, 0), (9, 0), (9, 0), (9, 0), (9, 0), (9, 0), (9, 0), (9, 0), (9, 0), (9, 0), (9, 0), (9, 0)]) dL_isBest_6 (Nat.le_of_ble_eq_true rfl) rfl (by first | decide | omega) rfl ?_
  refine x_iconst dL_isBest_8 ?_
  refine x_istore (ls' := [(2, 0), (3, 13), (2, 45), (0, dN D), (2, 46), (0, 1), (9, 0), (9, 0), (9, 0), (9, 0), (9, 0), (9, 0), (9, 0), (9, 0), (9, 0), (9, 0), (9, 0), (9, 0)]) dL_isBest_9 (Nat.le_of_ble_eq_true rfl) rfl rfl ?_
  have hL11 : ∀ (n11 : Nat) (i : Int) (μ1 : Mu), (dN D - i).toNat = n11 → Fr 46 46 1 0 μ1 μ → (1 ≤ i ∧ i ≤ dN D) → (∀ j : Int, 0 ≤ j → j < i → μ1 46 j = dX D j) → Gx (xK G M_L_isBest 30000 130000 (ibP G μ)) (ax G (20, nn) q46) M_L_isBest 1 (4 * (1) + 64) 11 [(2, 0), (3, 13), (2, 45), (0, dN D), (2, 46), (0, i), (9, 0), (9, 0), (9, 0), (9, 0), (9, 0), (9, 0), (9, 0), (9, 0), (9, 0), (9, 0), (9, 0), (9, 0)] [] μ1 := by
    intro n11
    induction n11 using Nat.strongRecOn with
    | ind n11 ih11 =>
      intro i μ1 hn11 hF11 hi0 hx
      refine x_iload dL_isBest_11 rfl ?_
      refine x_iload_n dL_isBest_13 rfl rfl ?_
      refine x_icmp_ge (tgt := 48) dL_isBest_14 rfl (R32.in (by omega)) (R32.in (by omega)) (fun c14 => ?_) (fun c14 => ?_)
      · skip
        have hLD : LD G D nn μ1 := ⟨(LH.cg hH (fun o h1 => (hF11.at (by omega) (by omega)))), fun i9 h0 h1 => ⟨hx i9 h0 (by omega), hbx i9 h0 h1⟩⟩
        refine x_aload_nS dL_isBest_48 rfl rfl ?_
        refine x_aload_n dL_isBest_49 rfl rfl (by first | decide | omega) ?_
        refine x_callSX (as := [(3, 13), (2, 45)]) (rest := []) (k := 12) (mc := 1) (ms := 8) (P := (wayP D nn (ax G (20, nn) q46) μ1)) fL_isBest_50.g ⟨Nat.le_of_ble_eq_true rfl, Nat.le_of_ble_eq_true rfl⟩ ⟨show 1 + 1 ≤ 30000 by omega, show 4 * (1) + 64 + 8 ≤ 130000 by omega⟩ xK_A (wf_gd hX47 hA47 ((GD.cg hD (fun o h1 => (hF11.at (by omega) (by omega)))))) rfl rfl rfl rfl rfl (Nat.le_of_ble_eq_true rfl) (by rw [hlen47]; exact ⟨fun _ => (by omega), ⟨nt_no (by decide), ⟨fun _ => (by omega), ⟨nt_no (by decide), ⟨fun _ => (by omega), ⟨nt_no (by decide), ⟨nt_no (by decide), ⟨nt_no (by decide), ⟨nt_no (by decide), ⟨nt_no (by decide), ⟨nt_no (by decide), ⟨nt_no (by decide), ⟨nt_no (by decide), ⟨nt_no (by decide), ⟨nt_no (by decide), ⟨nt_no (by decide), ⟨nt_no (by decide), ⟨nt_no (by decide), trivial⟩⟩⟩⟩⟩⟩⟩⟩⟩⟩⟩⟩⟩⟩⟩⟩⟩⟩) (by rw [hlen47]; exact trivial) (s_L_ways (ax G (20, nn) q46) D nn μ1 hlen47 hs45 (wf_gd hX47 hA47 ((GD.cg hD (fun o h1 => (hF11.at (by omega) (by omega)))))) (LH.cg hH (fun o h1 => (hF11.at (by omega) (by omega))))) (fun G50 r50 μ50 hp50 hx50 => ?_)
        obtain ⟨q47, rfl, rfl, hv50, ho50⟩ := hp50
        refine Gx.cg (ls' := [(2, 0), (3, 13), (2, 45), (0, dN D), (2, 46), (0, i), (9, 0), (9, 0), (9, 0), (9, 0), (9, 0), (9, 0), (9, 0), (9, 0), (9, 0), (9, 0), (9, 0), (9, 0)]) (st' := [(2, 47)]) (μ' := μ50) ?_ rfl rfl rfl
        refine Gx.widen (cs2 := 4) (ss2 := 4 * (4) + 64) (by omega) (by omega) ?_
        have hF50 : Fr 47 47 1 0 μ50 μ1 := (fun o h1 h2 => ho50 o (by omega))
        have hW50 : LW D μ50 := hv50
        have hlen48 : (gS (ax (ax G (20, nn) q46) (20, nn) q47)).length = 48 := (by rw [ax_len, hlen47])
        have hX48 : Xt (GG X) (ax (ax G (20, nn) q46) (20, nn) q47) := hX47.tr (Xt.ax (ax G (20, nn) q46) (20, nn) q47)
        have hA48 : ARR (ax (ax G (20, nn) q46) (20, nn) q47) := hA47.ax (Nat.le_of_ble_eq_true rfl)
        have hs45 := (Xt.ax (ax G (20, nn) q46) (20, nn) q47).sh hs45
        have hs46 := (Xt.ax (ax G (20, nn) q46) (20, nn) q47).sh hs46
        have hs47 : (gS (ax (ax G (20, nn) q46) (20, nn) q47))[47]? = some (20, nn) := (by have h9 := @ax_sh (ax G (20, nn) q46) (20, nn) q47; rw [hlen47] at h9; exact h9)
        refine x_astore (ls' := [(2, 0), (3, 13), (2, 45), (0, dN D), (2, 46), (2, 47), (9, 0), (9, 0), (9, 0), (9, 0), (9, 0), (9, 0), (9, 0), (9, 0), (9, 0), (9, 0), (9, 0), (9, 0)]) dL_isBest_53 (Nat.le_of_ble_eq_true rfl) rfl (by first | decide | omega) rfl ?_
        refine x_iconst dL_isBest_55 ?_
        refine x_istore (ls' := [(2, 0), (3, 13), (2, 45), (0, dN D), (2, 46), (2, 47), (0, 0), (9, 0), (9, 0), (9, 0), (9, 0), (9, 0), (9, 0), (9, 0), (9, 0), (9, 0), (9, 0), (9, 0)]) dL_isBest_56 (Nat.le_of_ble_eq_true rfl) rfl rfl ?_
        refine x_iconst dL_isBest_58 ?_
        refine x_istore (ls' := [(2, 0), (3, 13), (2, 45), (0, dN D), (2, 46), (2, 47), (0, 0), (0, 0), (9, 0), (9, 0), (9, 0), (9, 0), (9, 0), (9, 0), (9, 0), (9, 0), (9, 0), (9, 0)]) dL_isBest_59 (Nat.le_of_ble_eq_true rfl) rfl rfl ?_
        refine x_iconst dL_isBest_61 ?_
        refine x_istore (ls' := [(2, 0), (3, 13), (2, 45), (0, dN D), (2, 46), (2, 47), (0, 0), (0, 0), (0, 0), (9, 0), (9, 0), (9, 0), (9, 0), (9, 0), (9, 0), (9, 0), (9, 0), (9, 0)]) dL_isBest_62 (Nat.le_of_ble_eq_true rfl) rfl rfl ?_
        refine x_null dL_isBest_64 ?_
        refine x_astoreN (ls' := [(2, 0), (3, 13), (2, 45), (0, dN D), (2, 46), (2, 47), (0, 0), (0, 0), (0, 0), (2, -1), (9, 0), (9, 0), (9, 0), (9, 0), (9, 0), (9, 0), (9, 0), (9, 0)]) dL_isBest_65 (Nat.le_of_ble_eq_true rfl) rfl rfl ?_
        refine x_bipush dL_isBest_67 (by decide) ?_
        refine x_istore (ls' := [(2, 0), (3, 13), (2, 45), (0, dN D), (2, 46), (2, 47), (0, 0), (0, 0), (0, 0), (2, -1), (0, -60), (9, 0), (9, 0), (9, 0), (9, 0), (9, 0), (9, 0), (9, 0)]) dL_isBest_69 (Nat.le_of_ble_eq_true rfl) rfl rfl ?_
        have hJ1 : ∀ nJ1 : Nat, (∀ (l : Int) (al : Int) (cc : Nat) (μa : Mu), ((61 - l) * 40 + 20).toNat = nJ1 → Fr 48 60 1 0 μa μ50 → (-60 ≤ l ∧ l ≤ 61) → (fnN (sN D l (-60)) al) → ((cc : Int) + ((61 - l) * 40 + 20) ≤ 5000) → Gx (xK G M_L_isBest 30000 130000 (ibP G μ)) (ax (ax G (20, nn) q46) (20, nn) q47) M_L_isBest cc (4 * (cc) + 64) 71 [(2, 0), (3, 13), (2, 45), (0, dN D), (2, 46), (2, 47), (0, 0), (0, 0), (0, al), (2, -1), (0, l), (9, 0), (9, 0), (9, 0), (9, 0), (9, 0), (9, 0), (9, 0)] [] μa) ∧ (∀ (l : Int) (r : Int) (al : Int) (cc : Nat) (μa : Mu), ((61 - l) * 40 + (9 - (r - l))).toNat = nJ1 → Fr 48 60 1 0 μa μ50 → (-60 ≤ l ∧ l ≤ 60) → ((-60 ≤ r ∧ r ≤ 61) ∧ (l - 8 ≤ r ∧ r ≤ l + 9)) → (fnN (sN D l r) al) → ((cc : Int) + ((61 - l) * 40 + (9 - (r - l))) ≤ 5000) → Gx (xK G M_L_isBest 30000 130000 (ibP G μ)) (ax (ax G (20, nn) q46) (20, nn) q47) M_L_isBest cc (4 * (cc) + 64) 90 [(2, 0), (3, 13), (2, 45), (0, dN D), (2, 46), (2, 47), (0, 0), (0, 0), (0, al), (2, -1), (0, l), (0, r), (9, 0), (9, 0), (9, 0), (9, 0), (9, 0), (9, 0)] [] μa) ∧ (∀ (l : Int) (al : Int) (bl : Int) (br : Int) (cc : Nat) (qb : Nat) (μa : Mu), ((61 - l) * 40 + 20).toNat = nJ1 → Fr 48 60 1 0 μa μ50 → (-60 ≤ l ∧ l ≤ 61) → (fnY D (sN D l (-60)) al bl br) → (rowJ μa 48 D bl br) → ((cc : Int) + ((61 - l) * 40 + 20) ≤ 5000) → Gx (xK G M_L_isBest 30000 130000 (ibP G μ)) (ax (ax (ax G (20, nn) q46) (20, nn) q47) (23, 4) qb) M_L_isBest cc (4 * (cc) + 64) 71 [(2, 0), (3, 13), (2, 45), (0, dN D), (2, 46), (2, 47), (0, bl), (0, br), (0, al), (2, 48), (0, l), (9, 0), (9, 0), (9, 0), (9, 0), (9, 0), (9, 0), (9, 0)] [] μa) ∧ (∀ (l : Int) (r : Int) (al : Int) (bl : Int) (br : Int) (cc : Nat) (qb : Nat) (μa : Mu), ((61 - l) * 40 + (9 - (r - l))).toNat = nJ1 → Fr 48 60 1 0 μa μ50 → (-60 ≤ l ∧ l ≤ 60) → ((-60 ≤ r ∧ r ≤ 61) ∧ (l - 8 ≤ r ∧ r ≤ l + 9)) → (fnY D (sN D l r) al bl br) → (rowJ μa 48 D bl br) → ((cc : Int) + ((61 - l) * 40 + (9 - (r - l))) ≤ 5000) → Gx (xK G M_L_isBest 30000 130000 (ibP G μ)) (ax (ax (ax G (20, nn) q46) (20, nn) q47) (23, 4) qb) M_L_isBest cc (4 * (cc) + 64) 90 [(2, 0), (3, 13), (2, 45), (0, dN D), (2, 46), (2, 47), (0, bl), (0, br), (0, al), (2, 48), (0, l), (0, r), (9, 0), (9, 0), (9, 0), (9, 0), (9, 0), (9, 0)] [] μa) := by
          intro nJ1
          induction nJ1 using Nat.strongRecOn with
          | ind nJ1 ihJ1 =>
            refine ⟨?_, ?_, ?_, ?_⟩
            · intro l al cc μa hnJ1 hFJ1 hl hN hcc
              refine x_iload dL_isBest_71 rfl ?_
              refine x_bipush dL_isBest_73 (by decide) ?_
              refine x_icmp_gt (tgt := 185) dL_isBest_75 rfl (R32.in (by omega)) (R32.in (by decide)) (fun c75 => ?_) (fun c75 => ?_)
              · skip
                have hE := fn_endN hok (a := al) (by rw [← sN_end, show (61 : Int) = l by omega]; exact hN)
                refine x_iconst dL_isBest_185 ?_
                refine x_istore (ls' := [(2, 0), (3, 13), (2, 45), (0, dN D), (2, 46), (2, 47), (0, 0), (0, 0), (0, al), (2, -1), (0, 0), (9, 0), (9, 0), (9, 0), (9, 0), (9, 0), (9, 0), (9, 0)]) dL_isBest_186 (Nat.le_of_ble_eq_true rfl) rfl rfl ?_
                have hL188 : ∀ (n188 : Nat) (i : Int) (μd : Mu), (dN D - i).toNat = n188 → Fr 6 19 1 0 μd μa → (0 ≤ i ∧ i ≤ dN D) → Gx (xK G M_L_isBest 30000 130000 (ibP G μ)) (ax (ax G (20, nn) q46) (20, nn) q47) M_L_isBest cc (4 * (cc) + 64) 188 [(2, 0), (3, 13), (2, 45), (0, dN D), (2, 46), (2, 47), (0, 0), (0, 0), (0, al), (2, -1), (0, i), (9, 0), (9, 0), (9, 0), (9, 0), (9, 0), (9, 0), (9, 0)] [] μd := by
                  intro n188
                  induction n188 using Nat.strongRecOn with
                  | ind n188 ih188 =>
                    intro i μd hn188 hF188 hi0
                    refine x_iload dL_isBest_188 rfl ?_
                    refine x_iload_n dL_isBest_190 rfl rfl ?_
                    refine x_icmp_ge (tgt := 229) dL_isBest_191 rfl (R32.in (by omega)) (R32.in (by omega)) (fun c191 => ?_) (fun c191 => ?_)
                    · skip
                      refine x_aload_n dL_isBest_229 rfl rfl (by first | decide | omega) ?_
                      refine x_iconst dL_isBest_230 ?_
                      refine x_iconst dL_isBest_231 ?_
                      refine x_callVI (o := 0) (ci := 7) (as := [(0, 0), (0, 2)]) (rest := []) (k := 0) (Gs := GG X) fL_isBest_232.g ⟨Nat.le_of_ble_eq_true rfl, Nat.le_of_ble_eq_true rfl⟩ ⟨show cc ≤ 30000 by omega, show 4 * (cc) + 64 ≤ 130000 by omega⟩ xK_A hX48 (wf_gd Xt.rf ARR_GG ((GD.cg hD (fun o h1 => ((hF188.at (by omega) (by omega)).trans ((hFJ1.at (by omega) (by omega)).trans ((hF50.at (by omega) (by omega)).trans (hF11.at (by omega) (by omega))))))))) rfl rfl rfl rfl rfl rfl rfl rfl (Nat.le_of_ble_eq_true rfl) ⟨nt_no (by decide), ⟨nt_no (by decide), trivial⟩⟩ (by decide) (q_group X p D nn 2 μd (GD.cg hD (fun o h1 => ((hF188.at (by omega) (by omega)).trans ((hFJ1.at (by omega) (by omega)).trans ((hF50.at (by omega) (by omega)).trans (hF11.at (by omega) (by omega))))))) (by first | omega | assumption)) (fun x9 μ9 h9 => ⟨wf_gd Xt.rf ARR_GG h9.2.1, fun o ho => h9.1.at (by have h8 : (45 : Int) ≤ o := ho; omega) (by have h8 : (45 : Int) ≤ o := ho; omega)⟩) (fun x1001 μ_1001 hμ1001 => ?_)
                      obtain ⟨hF1001, hD_1001, hz_1001⟩ := hμ1001
                      have hg2 : x1001 = am_b (¬ klow D = 99) := hz_1001
                      have hg2r := am_b_r (¬ klow D = 99)
                      refine x_aload dL_isBest_235 rfl (by first | decide | omega) ?_
                      refine x_callSP (as := [(2, 47)]) (rest := [(0, x1001)]) (k := 4) fL_isBest_237.g ⟨Nat.le_of_ble_eq_true rfl, Nat.le_of_ble_eq_true rfl⟩ ⟨show cc ≤ 30000 by omega, show 4 * (cc) + 64 ≤ 130000 by omega⟩ xK_A (wf_gd hX48 hA48 (hD_1001)) rfl rfl rfl rfl rfl (Nat.le_of_ble_eq_true rfl) ⟨fun _ => (by omega), trivial⟩ (by decide) (show Wp (ax (ax G (20, nn) q46) (20, nn) q47) M_L_isKneed 0 [(2, 47), (9, 0), (9, 0), (9, 0), (9, 0)] [] μ_1001 (pP 0 (am_b (¬ klow D = 99)) μ_1001) from (s_L_isKneedD (ax (ax G (20, nn) q46) (20, nn) q47) D nn μ_1001 hs47 (by first | omega | assumption) hok (LW.cg hW50 (fun o h1 => ((hF1001.at (by omega) (by omega)).trans ((hF188.at (by omega) (by omega)).trans (hFJ1.at (by omega) (by omega)))))))) ?_
                      refine x_if_eq (tgt := 247) dL_isBest_240 rfl (R32.in (by have := am_b_r ((¬ klow D = 99)); omega)) (fun c240 => ?_) (fun c240 => ?_)
                      · skip
                        replace c240 := am_b0 c240
                        refine x_iconst dL_isBest_247 ?_
                        refine x_icmp_ne (tgt := 277) dL_isBest_248 rfl (R32.in (by omega)) (R32.in (by decide)) (fun c248 => ?_) (fun c248 => ?_)
                        · skip
                          rw [hg2, am_b, if_neg c240] at c248; exact (c248 rfl).elim
                        · skip
                          refine x_aload_n dL_isBest_251 rfl rfl (by first | decide | omega) ?_
                          refine x_iconst dL_isBest_252 ?_
                          refine x_iconst dL_isBest_253 ?_
                          refine x_callVI (o := 0) (ci := 7) (as := [(0, 0), (0, 3)]) (rest := []) (k := 0) (Gs := GG X) fL_isBest_254.g ⟨Nat.le_of_ble_eq_true rfl, Nat.le_of_ble_eq_true rfl⟩ ⟨show cc ≤ 30000 by omega, show 4 * (cc) + 64 ≤ 130000 by omega⟩ xK_A hX48 (wf_gd Xt.rf ARR_GG (hD_1001)) rfl rfl rfl rfl rfl rfl rfl rfl (Nat.le_of_ble_eq_true rfl) ⟨nt_no (by decide), ⟨nt_no (by decide), trivial⟩⟩ (by decide) (q_group X p D nn 3 μ_1001 hD_1001 (by first | omega | assumption)) (fun x9 μ9 h9 => ⟨wf_gd Xt.rf ARR_GG h9.2.1, fun o ho => h9.1.at (by have h8 : (45 : Int) ≤ o := ho; omega) (by have h8 : (45 : Int) ≤ o := ho; omega)⟩) (fun x1002 μ_1002 hμ1002 => ?_)
                          obtain ⟨hF1002, hD_1002, hz_1002⟩ := hμ1002
                          have hg3 : x1002 = dX D (dN D - 1) := hz_1002
                          refine x_aload dL_isBest_257 rfl (by first | decide | omega) ?_
                          refine x_iload_n dL_isBest_259 rfl rfl ?_
                          refine x_iconst dL_isBest_260 ?_
                          refine x_isub dL_isBest_261 ?_
                          refine x_ialdx (o := 46) (n := nn) (x := dX D ((dN D) - 1)) dL_isBest_262 rfl hs46 (by omega) (by omega) ((congrFun (hF1002.at (by omega) (by omega)) _).trans ((congrFun (hF1001.at (by omega) (by omega)) _).trans ((congrFun (hF188.at (by omega) (by omega)) _).trans ((congrFun (hFJ1.at (by omega) (by omega)) _).trans ((congrFun (hF50.at (by omega) (by omega)) _).trans (hLD.x (by omega))))))) ?_
                          have hr1003 := (hLD.ok).xs (i := ((dN D) - 1)) (by omega)
                          have hr1004 := hok.xs (i := ((dN D) - 1)) (by omega)
                          refine x_icmp_ne (tgt := 277) dL_isBest_263 rfl (R32.in (by omega)) (R32.in (by omega)) (fun c263 => ?_) (fun c263 => ?_)
                          · skip
                            exact (c263 hg3).elim
                          · skip
                            refine x_aload_n dL_isBest_266 rfl rfl (by first | decide | omega) ?_
                            refine x_iconst dL_isBest_267 ?_
                            refine x_iconst dL_isBest_268 ?_
                            refine x_callVI (o := 0) (ci := 7) (as := [(0, 0), (0, 5)]) (rest := []) (k := 0) (Gs := GG X) fL_isBest_269.g ⟨Nat.le_of_ble_eq_true rfl, Nat.le_of_ble_eq_true rfl⟩ ⟨show cc ≤ 30000 by omega, show 4 * (cc) + 64 ≤ 130000 by omega⟩ xK_A hX48 (wf_gd Xt.rf ARR_GG (hD_1002)) rfl rfl rfl rfl rfl rfl rfl rfl (Nat.le_of_ble_eq_true rfl) ⟨nt_no (by decide), ⟨nt_no (by decide), trivial⟩⟩ (by decide) (q_group X p D nn 5 μ_1002 hD_1002 (by first | omega | assumption)) (fun x9 μ9 h9 => ⟨wf_gd Xt.rf ARR_GG h9.2.1, fun o ho => h9.1.at (by have h8 : (45 : Int) ≤ o := ho; omega) (by have h8 : (45 : Int) ≤ o := ho; omega)⟩) (fun x1005 μ_1005 hμ1005 => ?_)
                            obtain ⟨hF1005, hD_1005, hz_1005⟩ := hμ1005
                            have hg5 : x1005 = cnD D := hz_1005
                            have hg6 := hE.1
                            refine x_iload dL_isBest_272 rfl ?_
                            refine x_icmp_eq (tgt := 279) dL_isBest_274 rfl (R32.in (by omega)) (R32.in (by omega)) (fun c274 => ?_) (fun c274 => ?_)
                            · skip
                              refine x_aloadN dL_isBest_279 rfl ?_
                              refine x_ifnonnull_n dL_isBest_281 ?_
                              refine x_aload_n dL_isBest_284 rfl rfl (by first | decide | omega) ?_
                              refine x_iconst dL_isBest_285 ?_
                              refine x_iconst dL_isBest_286 ?_
                              refine x_callVI (o := 0) (ci := 7) (as := [(0, 0), (0, 0)]) (rest := []) (k := 0) (Gs := GG X) fL_isBest_287.g ⟨Nat.le_of_ble_eq_true rfl, Nat.le_of_ble_eq_true rfl⟩ ⟨show cc ≤ 30000 by omega, show 4 * (cc) + 64 ≤ 130000 by omega⟩ xK_A hX48 (wf_gd Xt.rf ARR_GG (hD_1005)) rfl rfl rfl rfl rfl rfl rfl rfl (Nat.le_of_ble_eq_true rfl) ⟨nt_no (by decide), ⟨nt_no (by decide), trivial⟩⟩ (by decide) (q_best X p D nn 0 μ_1005 hD_1005 (by first | omega | assumption)) (fun x9 μ9 h9 => ⟨wf_gd Xt.rf ARR_GG h9.2.1, fun o ho => h9.1.at (by have h8 : (45 : Int) ≤ o := ho; omega) (by have h8 : (45 : Int) ≤ o := ho; omega)⟩) (fun x1006 μ_1006 hμ1006 => ?_)
                              obtain ⟨hF1006, hD_1006, hz_1006⟩ := hμ1006
                              have hb9 : x1006 = -1000000 := (by rw [hz_1006]; exact if_pos hE.2.1)
                              refine x_ldc (n := -1000000) dL_isBest_290 k_1179 (by decide) ?_
                              refine x_icmp_ne (tgt := 308) dL_isBest_292 rfl (R32.in (by omega)) (R32.in (by decide)) (fun c292 => ?_) (fun c292 => ?_)
                              · skip
                                exact (c292 hb9).elim
                              · skip
                                refine x_aload_n dL_isBest_295 rfl rfl (by first | decide | omega) ?_
                                refine x_iconst dL_isBest_296 ?_
                                refine x_callVI (o := 0) (ci := 7) (as := [(0, 1)]) (rest := []) (k := 0) (Gs := GG X) fL_isBest_297.g ⟨Nat.le_of_ble_eq_true rfl, Nat.le_of_ble_eq_true rfl⟩ ⟨show cc ≤ 30000 by omega, show 4 * (cc) + 64 ≤ 130000 by omega⟩ xK_A hX48 (wf_gd Xt.rf ARR_GG (hD_1006)) rfl rfl rfl rfl rfl rfl rfl rfl (Nat.le_of_ble_eq_true rfl) ⟨nt_no (by decide), trivial⟩ (by decide) (q_total X p D nn μ_1006 hD_1006) (fun x9 μ9 h9 => ⟨wf_gd Xt.rf ARR_GG h9.2.1, fun o ho => h9.1.at (by have h8 : (45 : Int) ≤ o := ho; omega) (by have h8 : (45 : Int) ≤ o := ho; omega)⟩) (fun x1007 μ_1007 hμ1007 => ?_)
                                obtain ⟨hF1007, hD_1007, hz_1007⟩ := hμ1007
                                have ht9 : x1007 = 1 := (by rw [hz_1007]; exact if_pos hE.2.1)
                                refine x_iconst dL_isBest_300 ?_
                                refine x_icmp_ne (tgt := 308) dL_isBest_301 rfl (R32.in (by omega)) (R32.in (by decide)) (fun c301 => ?_) (fun c301 => ?_)
                                · skip
                                  exact (c301 ht9).elim
                                · skip
                                  refine x_iconst dL_isBest_304 ?_
                                  refine x_goto (tgt := 309) dL_isBest_305 rfl ?_
                                  have hfin : Fr 6 19 46 60 μ_1007 μ := ((hF1007.wd (by omega) (by omega)).tr ((hF1006.wd (by omega) (by omega)).tr ((hF1005.wd (by omega) (by omega)).tr ((hF1002.wd (by omega) (by omega)).tr ((hF1001.wd (by omega) (by omega)).tr ((hF188.wd (by omega) (by omega)).tr ((hFJ1.wd (by omega) (by omega)).tr ((hF50.wd (by omega) (by omega)).tr (hF11.wd (by omega) (by omega))))))))))
                                  refine Gx.loc (ls' := [(9, 0), (9, 0), (9, 0), (9, 0), (9, 0), (9, 0), (9, 0), (9, 0), (9, 0), (9, 0), (9, 0), (9, 0), (9, 0), (9, 0), (9, 0), (9, 0), (9, 0), (9, 0)]) (fun q9 hq9 => by simp [am_l] at hq9) ?_
                                  refine Gx.drop (wf_gd hX47 hA47 (hD_1007)) (by rw [hlen47]; exact ⟨nt_no (by decide), ⟨nt_no (by decide), ⟨nt_no (by decide), ⟨nt_no (by decide), ⟨nt_no (by decide), ⟨nt_no (by decide), ⟨nt_no (by decide), ⟨nt_no (by decide), ⟨nt_no (by decide), ⟨nt_no (by decide), ⟨nt_no (by decide), ⟨nt_no (by decide), ⟨nt_no (by decide), ⟨nt_no (by decide), ⟨nt_no (by decide), ⟨nt_no (by decide), ⟨nt_no (by decide), ⟨nt_no (by decide), trivial⟩⟩⟩⟩⟩⟩⟩⟩⟩⟩⟩⟩⟩⟩⟩⟩⟩⟩) (by rw [hlen47]; exact ⟨nt_no (by decide), trivial⟩) ?_
                                  refine Gx.drop (wf_gd hX46 hA46 (hD_1007)) (by rw [hlen46]; exact ⟨nt_no (by decide), ⟨nt_no (by decide), ⟨nt_no (by decide), ⟨nt_no (by decide), ⟨nt_no (by decide), ⟨nt_no (by decide), ⟨nt_no (by decide), ⟨nt_no (by decide), ⟨nt_no (by decide), ⟨nt_no (by decide), ⟨nt_no (by decide), ⟨nt_no (by decide), ⟨nt_no (by decide), ⟨nt_no (by decide), ⟨nt_no (by decide), ⟨nt_no (by decide), ⟨nt_no (by decide), ⟨nt_no (by decide), trivial⟩⟩⟩⟩⟩⟩⟩⟩⟩⟩⟩⟩⟩⟩⟩⟩⟩⟩) (by rw [hlen46]; exact ⟨nt_no (by decide), trivial⟩) ?_
                                  exact x_zretX dL_isBest_309 rfl (Or.inr rfl) ⟨by omega, by omega⟩ Xt.rf ⟨rfl, rfl, fun o h1 h2 => hfin.at (by omega) (by omega)⟩
                            · skip
                              omega
                      · skip
                        replace c240 := am_b1 c240
                        refine x_iconst dL_isBest_243 ?_
                        refine x_goto (tgt := 248) dL_isBest_244 rfl ?_
                        refine x_icmp_ne (tgt := 277) dL_isBest_248 rfl (R32.in (by omega)) (R32.in (by decide)) (fun c248 => ?_) (fun c248 => ?_)
                        · skip
                          rw [hg2, am_b, if_pos c240] at c248; exact (c248 rfl).elim
                        · skip
                          refine x_aload_n dL_isBest_251 rfl rfl (by first | decide | omega) ?_
                          refine x_iconst dL_isBest_252 ?_
                          refine x_iconst dL_isBest_253 ?_
                          refine x_callVI (o := 0) (ci := 7) (as := [(0, 0), (0, 3)]) (rest := []) (k := 0) (Gs := GG X) fL_isBest_254.g ⟨Nat.le_of_ble_eq_true rfl, Nat.le_of_ble_eq_true rfl⟩ ⟨show cc ≤ 30000 by omega, show 4 * (cc) + 64 ≤ 130000 by omega⟩ xK_A hX48 (wf_gd Xt.rf ARR_GG (hD_1001)) rfl rfl rfl rfl rfl rfl rfl rfl (Nat.le_of_ble_eq_true rfl) ⟨nt_no (by decide), ⟨nt_no (by decide), trivial⟩⟩ (by decide) (q_group X p D nn 3 μ_1001 hD_1001 (by first | omega | assumption)) (fun x9 μ9 h9 => ⟨wf_gd Xt.rf ARR_GG h9.2.1, fun o ho => h9.1.at (by have h8 : (45 : Int) ≤ o := ho; omega) (by have h8 : (45 : Int) ≤ o := ho; omega)⟩) (fun x1008 μ_1008 hμ1008 => ?_)
                          obtain ⟨hF1008, hD_1008, hz_1008⟩ := hμ1008
                          have hg3 : x1008 = dX D (dN D - 1) := hz_1008
                          refine x_aload dL_isBest_257 rfl (by first | decide | omega) ?_
                          refine x_iload_n dL_isBest_259 rfl rfl ?_
                          refine x_iconst dL_isBest_260 ?_
                          refine x_isub dL_isBest_261 ?_
                          refine x_ialdx (o := 46) (n := nn) (x := dX D ((dN D) - 1)) dL_isBest_262 rfl hs46 (by omega) (by omega) ((congrFun (hF1008.at (by omega) (by omega)) _).trans ((congrFun (hF1001.at (by omega) (by omega)) _).trans ((congrFun (hF188.at (by omega) (by omega)) _).trans ((congrFun (hFJ1.at (by omega) (by omega)) _).trans ((congrFun (hF50.at (by omega) (by omega)) _).trans (hLD.x (by omega))))))) ?_
                          have hr1009 := (hLD.ok).xs (i := ((dN D) - 1)) (by omega)
                          have hr1010 := hok.xs (i := ((dN D) - 1)) (by omega)
                          refine x_icmp_ne (tgt := 277) dL_isBest_263 rfl (R32.in (by omega)) (R32.in (by omega)) (fun c263 => ?_) (fun c263 => ?_)
                          · skip
                            exact (c263 hg3).elim
                          · skip
                            refine x_aload_n dL_isBest_266 rfl rfl (by first | decide | omega) ?_
                            refine x_iconst dL_isBest_267 ?_
                            refine x_iconst dL_isBest_268 ?_
                            refine x_callVI (o := 0) (ci := 7) (as := [(0, 0), (0, 5)]) (rest := []) (k := 0) (Gs := GG X) fL_isBest_269.g ⟨Nat.le_of_ble_eq_true rfl, Nat.le_of_ble_eq_true rfl⟩ ⟨show cc ≤ 30000 by omega, show 4 * (cc) + 64 ≤ 130000 by omega⟩ xK_A hX48 (wf_gd Xt.rf ARR_GG (hD_1008)) rfl rfl rfl rfl rfl rfl rfl rfl (Nat.le_of_ble_eq_true rfl) ⟨nt_no (by decide), ⟨nt_no (by decide), trivial⟩⟩ (by decide) (q_group X p D nn 5 μ_1008 hD_1008 (by first | omega | assumption)) (fun x9 μ9 h9 => ⟨wf_gd Xt.rf ARR_GG h9.2.1, fun o ho => h9.1.at (by have h8 : (45 : Int) ≤ o := ho; omega) (by have h8 : (45 : Int) ≤ o := ho; omega)⟩) (fun x1011 μ_1011 hμ1011 => ?_)
                            obtain ⟨hF1011, hD_1011, hz_1011⟩ := hμ1011
                            have hg5 : x1011 = cnD D := hz_1011
                            have hg6 := hE.1
                            refine x_iload dL_isBest_272 rfl ?_
                            refine x_icmp_eq (tgt := 279) dL_isBest_274 rfl (R32.in (by omega)) (R32.in (by omega)) (fun c274 => ?_) (fun c274 => ?_)
                            · skip
                              refine x_aloadN dL_isBest_279 rfl ?_
                              refine x_ifnonnull_n dL_isBest_281 ?_
                              refine x_aload_n dL_isBest_284 rfl rfl (by first | decide | omega) ?_
                              refine x_iconst dL_isBest_285 ?_
                              refine x_iconst dL_isBest_286 ?_
                              refine x_callVI (o := 0) (ci := 7) (as := [(0, 0), (0, 0)]) (rest := []) (k := 0) (Gs := GG X) fL_isBest_287.g ⟨Nat.le_of_ble_eq_true rfl, Nat.le_of_ble_eq_true rfl⟩ ⟨show cc ≤ 30000 by omega, show 4 * (cc) + 64 ≤ 130000 by omega⟩ xK_A hX48 (wf_gd Xt.rf ARR_GG (hD_1011)) rfl rfl rfl rfl rfl rfl rfl rfl (Nat.le_of_ble_eq_true rfl) ⟨nt_no (by decide), ⟨nt_no (by decide), trivial⟩⟩ (by decide) (q_best X p D nn 0 μ_1011 hD_1011 (by first | omega | assumption)) (fun x9 μ9 h9 => ⟨wf_gd Xt.rf ARR_GG h9.2.1, fun o ho => h9.1.at (by have h8 : (45 : Int) ≤ o := ho; omega) (by have h8 : (45 : Int) ≤ o := ho; omega)⟩) (fun x1012 μ_1012 hμ1012 => ?_)
                              obtain ⟨hF1012, hD_1012, hz_1012⟩ := hμ1012
                              have hb9 : x1012 = -1000000 := (by rw [hz_1012]; exact if_pos hE.2.1)
                              refine x_ldc (n := -1000000) dL_isBest_290 k_1179 (by decide) ?_
                              refine x_icmp_ne (tgt := 308) dL_isBest_292 rfl (R32.in (by omega)) (R32.in (by decide)) (fun c292 => ?_) (fun c292 => ?_)
                              · skip
                                exact (c292 hb9).elim
                              · skip
                                refine x_aload_n dL_isBest_295 rfl rfl (by first | decide | omega) ?_
                                refine x_iconst dL_isBest_296 ?_
                                refine x_callVI (o := 0) (ci := 7) (as := [(0, 1)]) (rest := []) (k := 0) (Gs := GG X) fL_isBest_297.g ⟨Nat.le_of_ble_eq_true rfl, Nat.le_of_ble_eq_true rfl⟩ ⟨show cc ≤ 30000 by omega, show 4 * (cc) + 64 ≤ 130000 by omega⟩ xK_A hX48 (wf_gd Xt.rf ARR_GG (hD_1012)) rfl rfl rfl rfl rfl rfl rfl rfl (Nat.le_of_ble_eq_true rfl) ⟨nt_no (by decide), trivial⟩ (by decide) (q_total X p D nn μ_1012 hD_1012) (fun x9 μ9 h9 => ⟨wf_gd Xt.rf ARR_GG h9.2.1, fun o ho => h9.1.at (by have h8 : (45 : Int) ≤ o := ho; omega) (by have h8 : (45 : Int) ≤ o := ho; omega)⟩) (fun x1013 μ_1013 hμ1013 => ?_)
                                obtain ⟨hF1013, hD_1013, hz_1013⟩ := hμ1013
                                have ht9 : x1013 = 1 := (by rw [hz_1013]; exact if_pos hE.2.1)
                                refine x_iconst dL_isBest_300 ?_
                                refine x_icmp_ne (tgt := 308) dL_isBest_301 rfl (R32.in (by omega)) (R32.in (by decide)) (fun c301 => ?_) (fun c301 => ?_)
                                · skip
                                  exact (c301 ht9).elim
                                · skip
                                  refine x_iconst dL_isBest_304 ?_
                                  refine x_goto (tgt := 309) dL_isBest_305 rfl ?_
                                  have hfin : Fr 6 19 46 60 μ_1013 μ := ((hF1013.wd (by omega) (by omega)).tr ((hF1012.wd (by omega) (by omega)).tr ((hF1011.wd (by omega) (by omega)).tr ((hF1008.wd (by omega) (by omega)).tr ((hF1001.wd (by omega) (by omega)).tr ((hF188.wd (by omega) (by omega)).tr ((hFJ1.wd (by omega) (by omega)).tr ((hF50.wd (by omega) (by omega)).tr (hF11.wd (by omega) (by omega))))))))))
                                  refine Gx.loc (ls' := [(9, 0), (9, 0), (9, 0), (9, 0), (9, 0), (9, 0), (9, 0), (9, 0), (9, 0), (9, 0), (9, 0), (9, 0), (9, 0), (9, 0), (9, 0), (9, 0), (9, 0), (9, 0)]) (fun q9 hq9 => by simp [am_l] at hq9) ?_
                                  refine Gx.drop (wf_gd hX47 hA47 (hD_1013)) (by rw [hlen47]; exact ⟨nt_no (by decide), ⟨nt_no (by decide), ⟨nt_no (by decide), ⟨nt_no (by decide), ⟨nt_no (by decide), ⟨nt_no (by decide), ⟨nt_no (by decide), ⟨nt_no (by decide), ⟨nt_no (by decide), ⟨nt_no (by decide), ⟨nt_no (by decide), ⟨nt_no (by decide), ⟨nt_no (by decide), ⟨nt_no (by decide), ⟨nt_no (by decide), ⟨nt_no (by decide), ⟨nt_no (by decide), ⟨nt_no (by decide), trivial⟩⟩⟩⟩⟩⟩⟩⟩⟩⟩⟩⟩⟩⟩⟩⟩⟩⟩) (by rw [hlen47]; exact ⟨nt_no (by decide), trivial⟩) ?_
                                  refine Gx.drop (wf_gd hX46 hA46 (hD_1013)) (by rw [hlen46]; exact ⟨nt_no (by decide), ⟨nt_no (by decide), ⟨nt_no (by decide), ⟨nt_no (by decide), ⟨nt_no (by decide), ⟨nt_no (by decide), ⟨nt_no (by decide), ⟨nt_no (by decide), ⟨nt_no (by decide), ⟨nt_no (by decide), ⟨nt_no (by decide), ⟨nt_no (by decide), ⟨nt_no (by decide), ⟨nt_no (by decide), ⟨nt_no (by decide), ⟨nt_no (by decide), ⟨nt_no (by decide), ⟨nt_no (by decide), trivial⟩⟩⟩⟩⟩⟩⟩⟩⟩⟩⟩⟩⟩⟩⟩⟩⟩⟩) (by rw [hlen46]; exact ⟨nt_no (by decide), trivial⟩) ?_
                                  exact x_zretX dL_isBest_309 rfl (Or.inr rfl) ⟨by omega, by omega⟩ Xt.rf ⟨rfl, rfl, fun o h1 h2 => hfin.at (by omega) (by omega)⟩
                            · skip
                              omega
                    · skip
                      refine x_aload_n dL_isBest_194 rfl rfl (by first | decide | omega) ?_
                      refine x_iload dL_isBest_195 rfl ?_
                      refine x_callVI (o := 0) (ci := 7) (as := [(0, i)]) (rest := []) (k := 0) (Gs := GG X) fL_isBest_197.g ⟨Nat.le_of_ble_eq_true rfl, Nat.le_of_ble_eq_true rfl⟩ ⟨show cc ≤ 30000 by omega, show 4 * (cc) + 64 ≤ 130000 by omega⟩ xK_A hX48 (wf_gd Xt.rf ARR_GG ((GD.cg hD (fun o h1 => ((hF188.at (by omega) (by omega)).trans ((hFJ1.at (by omega) (by omega)).trans ((hF50.at (by omega) (by omega)).trans (hF11.at (by omega) (by omega))))))))) rfl rfl rfl rfl rfl rfl rfl rfl (Nat.le_of_ble_eq_true rfl) ⟨nt_no (by decide), trivial⟩ (by decide) (q_direction X p D nn i μd (GD.cg hD (fun o h1 => ((hF188.at (by omega) (by omega)).trans ((hFJ1.at (by omega) (by omega)).trans ((hF50.at (by omega) (by omega)).trans (hF11.at (by omega) (by omega))))))) (by first | omega | assumption)) (fun x9 μ9 h9 => ⟨wf_gd Xt.rf ARR_GG h9.2.1, fun o ho => h9.1.at (by have h8 : (45 : Int) ≤ o := ho; omega) (by have h8 : (45 : Int) ≤ o := ho; omega)⟩) (fun x1014 μ_1014 hμ1014 => ?_)
                      obtain ⟨hF1014, hD_1014, hz_1014⟩ := hμ1014
                      refine x_aload dL_isBest_200 rfl (by first | decide | omega) ?_
                      refine x_iload dL_isBest_202 rfl ?_
                      refine x_ialdx (o := 47) (n := nn) (x := way D i) dL_isBest_204 rfl hs47 (by omega) (by omega) ((congrFun (hF1014.at (by omega) (by omega)) _).trans ((congrFun (hF188.at (by omega) (by omega)) _).trans ((congrFun (hFJ1.at (by omega) (by omega)) _).trans (hW50 _ (by omega) (by omega))))) ?_
                      have hr1015 := way_b D i
                      refine x_icmp_ne (tgt := 221) dL_isBest_205 rfl (R32.in (by omega)) (R32.in (by omega)) (fun c205 => ?_) (fun c205 => ?_)
                      · skip
                        omega
                      · skip
                        refine x_aload_n dL_isBest_208 rfl rfl (by first | decide | omega) ?_
                        refine x_iload dL_isBest_209 rfl ?_
                        refine x_callVP (o := 0) (ci := 7) (as := [(0, i)]) (rest := []) (k := 0) (Gs := GG X) fL_isBest_211.g ⟨Nat.le_of_ble_eq_true rfl, Nat.le_of_ble_eq_true rfl⟩ ⟨show cc ≤ 30000 by omega, show 4 * (cc) + 64 ≤ 130000 by omega⟩ xK_A hX48 (wf_gd Xt.rf ARR_GG (hD_1014)) rfl rfl rfl rfl rfl rfl rfl rfl (Nat.le_of_ble_eq_true rfl) ⟨nt_no (by decide), trivial⟩ (by decide) (q_position X p D nn i μ_1014 hD_1014 (by first | omega | assumption)) ?_
                        refine x_aload_n dL_isBest_214 rfl rfl (by first | decide | omega) ?_
                        refine x_iload dL_isBest_215 rfl ?_
                        refine x_ialdx (o := 45) (n := nn) (x := dH D i) dL_isBest_217 rfl hs45 (by omega) (by omega) ((congrFun (hF1014.at (by omega) (by omega)) _).trans ((congrFun (hF188.at (by omega) (by omega)) _).trans ((congrFun (hFJ1.at (by omega) (by omega)) _).trans ((congrFun (hF50.at (by omega) (by omega)) _).trans (hLD.p (by omega)))))) ?_
                        have hr1016 := (hLD.ok).hr (i := i) (by omega)
                        have hr1017 := (hH.ok).hr (i := i) (by omega)
                        refine x_icmp_eq (tgt := 223) dL_isBest_218 rfl (R32.in (by omega)) (R32.in (by omega)) (fun c218 => ?_) (fun c218 => ?_)
                        · skip
                          refine x_iinc (ls' := [(2, 0), (3, 13), (2, 45), (0, dN D), (2, 46), (2, 47), (0, 0), (0, 0), (0, al), (2, -1), (0, i + 1), (9, 0), (9, 0), (9, 0), (9, 0), (9, 0), (9, 0), (9, 0)]) dL_isBest_223 rfl (Nat.le_of_ble_eq_true rfl) rfl rfl ?_
                          refine x_goto (tgt := 188) dL_isBest_226 rfl ?_
                          exact ih188 (dN D - (i + 1)).toNat (by omega) (i + 1) μ_1014 rfl ((hF1014.wd (by omega) (by omega)).tr hF188) (by first | omega | assumption)
                        · skip
                          omega
                exact hL188 _ 0 μa rfl Fr.rf (by first | omega | assumption)
              · skip
                refine x_bipush dL_isBest_78 (by decide) ?_
                refine x_iload dL_isBest_80 rfl ?_
                refine x_bipush dL_isBest_82 (by decide) ?_
                refine x_isub dL_isBest_84 ?_
                refine x_max fL_isBest_85 (R32.in (by decide)) (R32.in (by omega)) (Nat.le_of_ble_eq_true rfl) ⟨Nat.le_of_ble_eq_true rfl, Nat.le_of_ble_eq_true rfl, show cc ≤ 30000 by omega, show 4 * (cc) + 64 ≤ 130000 by omega⟩ ?_
                refine x_istore (ls' := [(2, 0), (3, 13), (2, 45), (0, dN D), (2, 46), (2, 47), (0, 0), (0, 0), (0, al), (2, -1), (0, l), (0, max (-60) (l - 8)), (9, 0), (9, 0), (9, 0), (9, 0), (9, 0), (9, 0)]) dL_isBest_88 (Nat.le_of_ble_eq_true rfl) rfl rfl ?_
                exact (ihJ1 _ (by omega)).2.1 l (max (-60) (l - 8)) al cc μa rfl hFJ1 (by omega) (by omega) (by first | exact fnN_beg hN (by omega) | exact fnN_n hN (by omega) (by omega) (fun q9 => hna115 ((alwB_iff (by omega)).mp q9.2))) (by omega)
            · intro l r al cc μa hnJ1 hFJ1 hl hr hN hcc
              refine x_iload dL_isBest_90 rfl ?_
              refine x_bipush dL_isBest_92 (by decide) ?_
              refine x_iload dL_isBest_94 rfl ?_
              refine x_bipush dL_isBest_96 (by decide) ?_
              refine x_iadd dL_isBest_98 ?_
              refine x_min fL_isBest_99 (R32.in (by decide)) (R32.in (by omega)) (Nat.le_of_ble_eq_true rfl) ⟨Nat.le_of_ble_eq_true rfl, Nat.le_of_ble_eq_true rfl, show cc ≤ 30000 by omega, show 4 * (cc) + 64 ≤ 130000 by omega⟩ ?_
              refine x_icmp_gt (tgt := 179) dL_isBest_102 rfl (R32.in (by omega)) (R32.in (by omega)) (fun c102 => ?_) (fun c102 => ?_)
              · skip
                refine x_iinc (ls' := [(2, 0), (3, 13), (2, 45), (0, dN D), (2, 46), (2, 47), (0, 0), (0, 0), (0, al), (2, -1), (0, l + 1), (0, r), (9, 0), (9, 0), (9, 0), (9, 0), (9, 0), (9, 0)]) dL_isBest_179 rfl (Nat.le_of_ble_eq_true rfl) rfl rfl ?_
                refine x_goto (tgt := 71) dL_isBest_182 rfl ?_
                refine Gx.fgl (ls' := [(2, 0), (3, 13), (2, 45), (0, dN D), (2, 46), (2, 47), (0, 0), (0, 0), (0, al), (2, -1), (0, l + 1), (9, 0), (9, 0), (9, 0), (9, 0), (9, 0), (9, 0), (9, 0)]) 11 rfl ?_
                exact (ihJ1 _ (by omega)).1 (l + 1) al cc μa rfl hFJ1 (by omega) (fnN_row hN (by omega) (by omega) (by intro x h1 h2; omega)) (by omega)
              · skip
                refine x_aload_nS dL_isBest_105 rfl rfl ?_
                refine x_aload_n dL_isBest_106 rfl rfl (by first | decide | omega) ?_
                refine x_aload dL_isBest_107 rfl (by first | decide | omega) ?_
                refine x_aload dL_isBest_109 rfl (by first | decide | omega) ?_
                refine x_iload dL_isBest_111 rfl ?_
                refine x_iload dL_isBest_113 rfl ?_
                refine x_callSX (as := [(3, 13), (2, 45), (2, 47), (2, 46), (0, l), (0, r)]) (rest := []) (k := 19) (mc := 1) (ms := 4) (P := (judP D l r 48 (ax (ax G (20, nn) q46) (20, nn) q47) μa)) fL_isBest_115.g ⟨Nat.le_of_ble_eq_true rfl, Nat.le_of_ble_eq_true rfl⟩ ⟨show cc + 1 ≤ 30000 by omega, show 4 * (cc) + 64 + 4 ≤ 130000 by omega⟩ xK_A (wf_gd hX48 hA48 ((GD.cg hD (fun o h1 => ((hFJ1.at (by omega) (by omega)).trans ((hF50.at (by omega) (by omega)).trans (hF11.at (by omega) (by omega)))))))) rfl rfl rfl rfl rfl (Nat.le_of_ble_eq_true rfl) (by rw [hlen48]; exact ⟨fun _ => (by omega), ⟨nt_no (by decide), ⟨fun _ => (by omega), ⟨nt_no (by decide), ⟨fun _ => (by omega), ⟨fun _ => (by omega), ⟨nt_no (by decide), ⟨nt_no (by decide), ⟨nt_no (by decide), ⟨fun _ => (by omega), ⟨nt_no (by decide), ⟨nt_no (by decide), ⟨nt_no (by decide), ⟨nt_no (by decide), ⟨nt_no (by decide), ⟨nt_no (by decide), ⟨nt_no (by decide), ⟨nt_no (by decide), trivial⟩⟩⟩⟩⟩⟩⟩⟩⟩⟩⟩⟩⟩⟩⟩⟩⟩⟩) (by rw [hlen48]; exact trivial) (s_L_judged (ax (ax G (20, nn) q46) (20, nn) q47) D nn 48 l r μa hlen48 (by decide) hs45 hs46 hs47 (wf_gd hX48 hA48 ((GD.cg hD (fun o h1 => ((hFJ1.at (by omega) (by omega)).trans ((hF50.at (by omega) (by omega)).trans (hF11.at (by omega) (by omega)))))))) (LD.cg hLD (fun o h1 => ((hFJ1.at (by omega) (by omega)).trans (hF50.at (by omega) (by omega))))) (LW.cg hW50 (fun o h1 => (hFJ1.at (by omega) (by omega)))) (by omega)) (fun G115 r115 μ115 hp115 hx115 => ?_)
                rcases hp115 with ⟨hna115, rfl, rfl, hm115⟩ | ⟨hal115, q115, rfl, rfl, hv115, ho115⟩
                · skip
                  have hm9115 := hm115.symm
                  rw [hm115]
                  refine Gx.cg (ls' := [(2, 0), (3, 13), (2, 45), (0, dN D), (2, 46), (2, 47), (0, 0), (0, 0), (0, al), (2, -1), (0, l), (0, r), (9, 0), (9, 0), (9, 0), (9, 0), (9, 0), (9, 0)]) (st' := [(2, -1)]) (μ' := μa) ?_ rfl rfl rfl
                  refine Gx.widen (cs2 := cc + 1) (ss2 := 4 * (cc + 1) + 64) (by omega) (by omega) ?_
                  refine x_astoreN (ls' := [(2, 0), (3, 13), (2, 45), (0, dN D), (2, 46), (2, 47), (0, 0), (0, 0), (0, al), (2, -1), (0, l), (0, r), (2, -1), (9, 0), (9, 0), (9, 0), (9, 0), (9, 0)]) dL_isBest_118 (Nat.le_of_ble_eq_true rfl) rfl rfl ?_
                  refine x_aloadN dL_isBest_120 rfl ?_
                  refine x_ifnonnull_n dL_isBest_122 ?_
                  refine x_goto (tgt := 173) dL_isBest_125 rfl ?_
                  refine x_iinc (ls' := [(2, 0), (3, 13), (2, 45), (0, dN D), (2, 46), (2, 47), (0, 0), (0, 0), (0, al), (2, -1), (0, l), (0, r + 1), (2, -1), (9, 0), (9, 0), (9, 0), (9, 0), (9, 0)]) dL_isBest_173 rfl (Nat.le_of_ble_eq_true rfl) rfl rfl ?_
                  refine x_goto (tgt := 90) dL_isBest_176 rfl ?_
                  refine Gx.fgl (ls' := [(2, 0), (3, 13), (2, 45), (0, dN D), (2, 46), (2, 47), (0, 0), (0, 0), (0, al), (2, -1), (0, l), (0, r + 1), (9, 0), (9, 0), (9, 0), (9, 0), (9, 0), (9, 0)]) 12 rfl ?_
                  exact (ihJ1 _ (by omega)).2.1 l (r + 1) al (cc + 1) μa rfl hFJ1 (by omega) (by omega) (by first | exact fnN_beg hN (by omega) | exact fnN_n hN (by omega) (by omega) (fun q9 => hna115 ((alwB_iff (by omega)).mp q9.2))) (by omega)
                · skip
                  refine Gx.cg (ls' := [(2, 0), (3, 13), (2, 45), (0, dN D), (2, 46), (2, 47), (0, 0), (0, 0), (0, al), (2, -1), (0, l), (0, r), (9, 0), (9, 0), (9, 0), (9, 0), (9, 0), (9, 0)]) (st' := [(2, 48)]) (μ' := μ115) ?_ rfl rfl rfl
                  refine Gx.widen (cs2 := cc + 1) (ss2 := 4 * (cc + 1) + 64) (by omega) (by omega) ?_
                  have hF115 : Fr 48 48 1 0 μ115 μa := (fun o h1 h2 => ho115 o (by omega))
                  have hJ115 : rowJ μ115 48 D l r := hv115
                  have hlen49 : (gS (ax (ax (ax G (20, nn) q46) (20, nn) q47) (23, 4) q115)).length = 49 := (by rw [ax_len, hlen48])
                  have hX49 : Xt (GG X) (ax (ax (ax G (20, nn) q46) (20, nn) q47) (23, 4) q115) := hX48.tr (Xt.ax (ax (ax G (20, nn) q46) (20, nn) q47) (23, 4) q115)
                  have hA49 : ARR (ax (ax (ax G (20, nn) q46) (20, nn) q47) (23, 4) q115) := hA48.ax (Nat.le_of_ble_eq_true rfl)
                  have hs45 := (Xt.ax (ax (ax G (20, nn) q46) (20, nn) q47) (23, 4) q115).sh hs45
                  have hs46 := (Xt.ax (ax (ax G (20, nn) q46) (20, nn) q47) (23, 4) q115).sh hs46
                  have hs47 := (Xt.ax (ax (ax G (20, nn) q46) (20, nn) q47) (23, 4) q115).sh hs47
                  have hs48 : (gS (ax (ax (ax G (20, nn) q46) (20, nn) q47) (23, 4) q115))[48]? = some (23, 4) := (by have h9 := @ax_sh (ax (ax G (20, nn) q46) (20, nn) q47) (23, 4) q115; rw [hlen48] at h9; exact h9)
                  refine x_astore (ls' := [(2, 0), (3, 13), (2, 45), (0, dN D), (2, 46), (2, 47), (0, 0), (0, 0), (0, al), (2, -1), (0, l), (0, r), (2, 48), (9, 0), (9, 0), (9, 0), (9, 0), (9, 0)]) dL_isBest_118 (Nat.le_of_ble_eq_true rfl) rfl (by first | decide | omega) rfl ?_
                  refine x_aload dL_isBest_120 rfl (by first | decide | omega) ?_
                  refine x_ifnonnull_r (tgt := 128) dL_isBest_122 rfl (by omega) ?_
                  refine x_iinc (ls' := [(2, 0), (3, 13), (2, 45), (0, dN D), (2, 46), (2, 47), (0, 0), (0, 0), (0, al + 1), (2, -1), (0, l), (0, r), (2, 48), (9, 0), (9, 0), (9, 0), (9, 0), (9, 0)]) dL_isBest_128 rfl (Nat.le_of_ble_eq_true rfl) rfl rfl ?_
                  refine x_aloadN dL_isBest_131 rfl ?_
                  refine x_ifnull_n (tgt := 161) dL_isBest_133 rfl ?_
                  refine x_aload dL_isBest_161 rfl (by first | decide | omega) ?_
                  refine x_astore (ls' := [(2, 0), (3, 13), (2, 45), (0, dN D), (2, 46), (2, 47), (0, 0), (0, 0), (0, al + 1), (2, 48), (0, l), (0, r), (2, 48), (9, 0), (9, 0), (9, 0), (9, 0), (9, 0)]) dL_isBest_163 (Nat.le_of_ble_eq_true rfl) rfl (by first | decide | omega) rfl ?_
                  refine x_iload dL_isBest_165 rfl ?_
                  refine x_istore (ls' := [(2, 0), (3, 13), (2, 45), (0, dN D), (2, 46), (2, 47), (0, l), (0, 0), (0, al + 1), (2, 48), (0, l), (0, r), (2, 48), (9, 0), (9, 0), (9, 0), (9, 0), (9, 0)]) dL_isBest_167 (Nat.le_of_ble_eq_true rfl) rfl rfl ?_
                  refine x_iload dL_isBest_169 rfl ?_
                  refine x_istore (ls' := [(2, 0), (3, 13), (2, 45), (0, dN D), (2, 46), (2, 47), (0, l), (0, r), (0, al + 1), (2, 48), (0, l), (0, r), (2, 48), (9, 0), (9, 0), (9, 0), (9, 0), (9, 0)]) dL_isBest_171 (Nat.le_of_ble_eq_true rfl) rfl rfl ?_
                  refine x_iinc (ls' := [(2, 0), (3, 13), (2, 45), (0, dN D), (2, 46), (2, 47), (0, l), (0, r), (0, al + 1), (2, 48), (0, l), (0, r + 1), (2, 48), (9, 0), (9, 0), (9, 0), (9, 0), (9, 0)]) dL_isBest_173 rfl (Nat.le_of_ble_eq_true rfl) rfl rfl ?_
                  refine x_goto (tgt := 90) dL_isBest_176 rfl ?_
                  refine Gx.fgl (ls' := [(2, 0), (3, 13), (2, 45), (0, dN D), (2, 46), (2, 47), (0, l), (0, r), (0, al + 1), (2, 48), (0, l), (0, r + 1), (9, 0), (9, 0), (9, 0), (9, 0), (9, 0), (9, 0)]) 12 rfl ?_
                  exact (ihJ1 _ (by omega)).2.2.2 l (r + 1) (al + 1) l r (cc + 1) q115 μ115 rfl ((hF115.wd (by omega) (by omega)).tr hFJ1) (by omega) (by omega) (by first | exact fnY_beg hY (by omega) | exact fnY_n hY (by omega) (by omega) (fun q9 => hna115 ((alwB_iff (by omega)).mp q9.2)) | exact fnY_y (fn_1 hN) (by omega) (by omega) (by omega) ((alwB_iff (by omega)).mpr hal115) | exact fnY_y (fn_b hY c155) (by omega) (by omega) (by omega) ((alwB_iff (by omega)).mpr hal115) | exact fnY_y (fn_n hY c155) (by omega) (by omega) (by omega) ((alwB_iff (by omega)).mpr hal115)) hJ115 (by omega)
            · intro l al bl br cc qb μa hnJ1 hFJ1 hl hY hJb hcc
              have hlen49 : (gS (ax (ax (ax G (20, nn) q46) (20, nn) q47) (23, 4) qb)).length = 49 := (by rw [ax_len, hlen48])
              have hX49 : Xt (GG X) (ax (ax (ax G (20, nn) q46) (20, nn) q47) (23, 4) qb) := hX48.tr (Xt.ax (ax (ax G (20, nn) q46) (20, nn) q47) (23, 4) qb)
              have hA49 : ARR (ax (ax (ax G (20, nn) q46) (20, nn) q47) (23, 4) qb) := hA48.ax (Nat.le_of_ble_eq_true rfl)
              have hs45 := (Xt.ax (ax (ax G (20, nn) q46) (20, nn) q47) (23, 4) qb).sh hs45
              have hs46 := (Xt.ax (ax (ax G (20, nn) q46) (20, nn) q47) (23, 4) qb).sh hs46
              have hs47 := (Xt.ax (ax (ax G (20, nn) q46) (20, nn) q47) (23, 4) qb).sh hs47
              have hs48 : (gS (ax (ax (ax G (20, nn) q46) (20, nn) q47) (23, 4) qb))[48]? = some (23, 4) := (by have h9 := @ax_sh (ax (ax G (20, nn) q46) (20, nn) q47) (23, 4) qb; rw [hlen48] at h9; exact h9)
              have hB := sN_mem hok (by omega) (by omega) hY.2.1
              have hB2 : (-60 ≤ bl ∧ bl ≤ 60) ∧ (-60 ≤ br ∧ br ≤ 60) ∧ (-8 ≤ br - bl ∧ br - bl ≤ 8) := (by have h9 := hB.1; unfold inS inL at h9; simp only at h9; omega)
              have hB3 : alw D (br - bl) bl := hB.2
              refine x_iload dL_isBest_71 rfl ?_
              refine x_bipush dL_isBest_73 (by decide) ?_
              refine x_icmp_gt (tgt := 185) dL_isBest_75 rfl (R32.in (by omega)) (R32.in (by decide)) (fun c75 => ?_) (fun c75 => ?_)
              · skip
                have hE := fn_endY hok (a := al) (bl := bl) (br := br) (by rw [← sN_end, show (61 : Int) = l by omega]; exact hY)
                have hst := stm_a hok hB3
                have hsl := slp_f D (br - bl) hB2.2.2
                have hsf := stf_f D (br - bl) bl hok
                refine x_iconst dL_isBest_185 ?_
                refine x_istore (ls' := [(2, 0), (3, 13), (2, 45), (0, dN D), (2, 46), (2, 47), (0, bl), (0, br), (0, al), (2, 48), (0, 0), (9, 0), (9, 0), (9, 0), (9, 0), (9, 0), (9, 0), (9, 0)]) dL_isBest_186 (Nat.le_of_ble_eq_true rfl) rfl rfl ?_
                have hL188 : ∀ (n188 : Nat) (i : Int) (μd : Mu), (dN D - i).toNat = n188 → Fr 6 19 1 0 μd μa → (0 ≤ i ∧ i ≤ dN D) → Gx (xK G M_L_isBest 30000 130000 (ibP G μ)) (ax (ax (ax G (20, nn) q46) (20, nn) q47) (23, 4) qb) M_L_isBest cc (4 * (cc) + 64) 188 [(2, 0), (3, 13), (2, 45), (0, dN D), (2, 46), (2, 47), (0, bl), (0, br), (0, al), (2, 48), (0, i), (9, 0), (9, 0), (9, 0), (9, 0), (9, 0), (9, 0), (9, 0)] [] μd := by
                  intro n188
                  induction n188 using Nat.strongRecOn with
                  | ind n188 ih188 =>
                    intro i μd hn188 hF188 hi0
                    refine x_iload dL_isBest_188 rfl ?_
                    refine x_iload_n dL_isBest_190 rfl rfl ?_
                    refine x_icmp_ge (tgt := 229) dL_isBest_191 rfl (R32.in (by omega)) (R32.in (by omega)) (fun c191 => ?_) (fun c191 => ?_)
                    · skip
                      refine x_aload_n dL_isBest_229 rfl rfl (by first | decide | omega) ?_
                      refine x_iconst dL_isBest_230 ?_
                      refine x_iconst dL_isBest_231 ?_
                      refine x_callVI (o := 0) (ci := 7) (as := [(0, 0), (0, 2)]) (rest := []) (k := 0) (Gs := GG X) fL_isBest_232.g ⟨Nat.le_of_ble_eq_true rfl, Nat.le_of_ble_eq_true rfl⟩ ⟨show cc ≤ 30000 by omega, show 4 * (cc) + 64 ≤ 130000 by omega⟩ xK_A hX49 (wf_gd Xt.rf ARR_GG ((GD.cg hD (fun o h1 => ((hF188.at (by omega) (by omega)).trans ((hFJ1.at (by omega) (by omega)).trans ((hF50.at (by omega) (by omega)).trans (hF11.at (by omega) (by omega))))))))) rfl rfl rfl rfl rfl rfl rfl rfl (Nat.le_of_ble_eq_true rfl) ⟨nt_no (by decide), ⟨nt_no (by decide), trivial⟩⟩ (by decide) (q_group X p D nn 2 μd (GD.cg hD (fun o h1 => ((hF188.at (by omega) (by omega)).trans ((hFJ1.at (by omega) (by omega)).trans ((hF50.at (by omega) (by omega)).trans (hF11.at (by omega) (by omega))))))) (by first | omega | assumption)) (fun x9 μ9 h9 => ⟨wf_gd Xt.rf ARR_GG h9.2.1, fun o ho => h9.1.at (by have h8 : (45 : Int) ≤ o := ho; omega) (by have h8 : (45 : Int) ≤ o := ho; omega)⟩) (fun x1018 μ_1018 hμ1018 => ?_)
                      obtain ⟨hF1018, hD_1018, hz_1018⟩ := hμ1018
                      have hg2 : x1018 = am_b (¬ klow D = 99) := hz_1018
                      have hg2r := am_b_r (¬ klow D = 99)
                      refine x_aload dL_isBest_235 rfl (by first | decide | omega) ?_
                      refine x_callSP (as := [(2, 47)]) (rest := [(0, x1018)]) (k := 4) fL_isBest_237.g ⟨Nat.le_of_ble_eq_true rfl, Nat.le_of_ble_eq_true rfl⟩ ⟨show cc ≤ 30000 by omega, show 4 * (cc) + 64 ≤ 130000 by omega⟩ xK_A (wf_gd hX49 hA49 (hD_1018)) rfl rfl rfl rfl rfl (Nat.le_of_ble_eq_true rfl) ⟨fun _ => (by omega), trivial⟩ (by decide) (show Wp (ax (ax (ax G (20, nn) q46) (20, nn) q47) (23, 4) qb) M_L_isKneed 0 [(2, 47), (9, 0), (9, 0), (9, 0), (9, 0)] [] μ_1018 (pP 0 (am_b (¬ klow D = 99)) μ_1018) from (s_L_isKneedD (ax (ax (ax G (20, nn) q46) (20, nn) q47) (23, 4) qb) D nn μ_1018 hs47 (by first | omega | assumption) hok (LW.cg hW50 (fun o h1 => ((hF1018.at (by omega) (by omega)).trans ((hF188.at (by omega) (by omega)).trans (hFJ1.at (by omega) (by omega)))))))) ?_
                      refine x_if_eq (tgt := 247) dL_isBest_240 rfl (R32.in (by have := am_b_r ((¬ klow D = 99)); omega)) (fun c240 => ?_) (fun c240 => ?_)
                      · skip
                        replace c240 := am_b0 c240
                        refine x_iconst dL_isBest_247 ?_
                        refine x_icmp_ne (tgt := 277) dL_isBest_248 rfl (R32.in (by omega)) (R32.in (by decide)) (fun c248 => ?_) (fun c248 => ?_)
                        · skip
                          rw [hg2, am_b, if_neg c240] at c248; exact (c248 rfl).elim
                        · skip
                          refine x_aload_n dL_isBest_251 rfl rfl (by first | decide | omega) ?_
                          refine x_iconst dL_isBest_252 ?_
                          refine x_iconst dL_isBest_253 ?_
                          refine x_callVI (o := 0) (ci := 7) (as := [(0, 0), (0, 3)]) (rest := []) (k := 0) (Gs := GG X) fL_isBest_254.g ⟨Nat.le_of_ble_eq_true rfl, Nat.le_of_ble_eq_true rfl⟩ ⟨show cc ≤ 30000 by omega, show 4 * (cc) + 64 ≤ 130000 by omega⟩ xK_A hX49 (wf_gd Xt.rf ARR_GG (hD_1018)) rfl rfl rfl rfl rfl rfl rfl rfl (Nat.le_of_ble_eq_true rfl) ⟨nt_no (by decide), ⟨nt_no (by decide), trivial⟩⟩ (by decide) (q_group X p D nn 3 μ_1018 hD_1018 (by first | omega | assumption)) (fun x9 μ9 h9 => ⟨wf_gd Xt.rf ARR_GG h9.2.1, fun o ho => h9.1.at (by have h8 : (45 : Int) ≤ o := ho; omega) (by have h8 : (45 : Int) ≤ o := ho; omega)⟩) (fun x1019 μ_1019 hμ1019 => ?_)
                          obtain ⟨hF1019, hD_1019, hz_1019⟩ := hμ1019
                          have hg3 : x1019 = dX D (dN D - 1) := hz_1019
                          refine x_aload dL_isBest_257 rfl (by first | decide | omega) ?_
                          refine x_iload_n dL_isBest_259 rfl rfl ?_
                          refine x_iconst dL_isBest_260 ?_
                          refine x_isub dL_isBest_261 ?_
                          refine x_ialdx (o := 46) (n := nn) (x := dX D ((dN D) - 1)) dL_isBest_262 rfl hs46 (by omega) (by omega) ((congrFun (hF1019.at (by omega) (by omega)) _).trans ((congrFun (hF1018.at (by omega) (by omega)) _).trans ((congrFun (hF188.at (by omega) (by omega)) _).trans ((congrFun (hFJ1.at (by omega) (by omega)) _).trans ((congrFun (hF50.at (by omega) (by omega)) _).trans (hLD.x (by omega))))))) ?_
                          have hr1020 := (hLD.ok).xs (i := ((dN D) - 1)) (by omega)
                          have hr1021 := hok.xs (i := ((dN D) - 1)) (by omega)
                          refine x_icmp_ne (tgt := 277) dL_isBest_263 rfl (R32.in (by omega)) (R32.in (by omega)) (fun c263 => ?_) (fun c263 => ?_)
                          · skip
                            exact (c263 hg3).elim
                          · skip
                            refine x_aload_n dL_isBest_266 rfl rfl (by first | decide | omega) ?_
                            refine x_iconst dL_isBest_267 ?_
                            refine x_iconst dL_isBest_268 ?_
                            refine x_callVI (o := 0) (ci := 7) (as := [(0, 0), (0, 5)]) (rest := []) (k := 0) (Gs := GG X) fL_isBest_269.g ⟨Nat.le_of_ble_eq_true rfl, Nat.le_of_ble_eq_true rfl⟩ ⟨show cc ≤ 30000 by omega, show 4 * (cc) + 64 ≤ 130000 by omega⟩ xK_A hX49 (wf_gd Xt.rf ARR_GG (hD_1019)) rfl rfl rfl rfl rfl rfl rfl rfl (Nat.le_of_ble_eq_true rfl) ⟨nt_no (by decide), ⟨nt_no (by decide), trivial⟩⟩ (by decide) (q_group X p D nn 5 μ_1019 hD_1019 (by first | omega | assumption)) (fun x9 μ9 h9 => ⟨wf_gd Xt.rf ARR_GG h9.2.1, fun o ho => h9.1.at (by have h8 : (45 : Int) ≤ o := ho; omega) (by have h8 : (45 : Int) ≤ o := ho; omega)⟩) (fun x1022 μ_1022 hμ1022 => ?_)
                            obtain ⟨hF1022, hD_1022, hz_1022⟩ := hμ1022
                            have hg5 : x1022 = cnD D := hz_1022
                            have hg6 := hE.1
                            refine x_iload dL_isBest_272 rfl ?_
                            refine x_icmp_eq (tgt := 279) dL_isBest_274 rfl (R32.in (by omega)) (R32.in (by omega)) (fun c274 => ?_) (fun c274 => ?_)
                            · skip
                              refine x_aload dL_isBest_279 rfl (by first | decide | omega) ?_
                              refine x_ifnonnull_r (tgt := 310) dL_isBest_281 rfl (by omega) ?_
                              refine x_aload_n dL_isBest_310 rfl rfl (by first | decide | omega) ?_
                              refine x_iconst dL_isBest_311 ?_
                              refine x_iconst dL_isBest_312 ?_
                              refine x_callVI (o := 0) (ci := 7) (as := [(0, 0), (0, 0)]) (rest := []) (k := 0) (Gs := GG X) fL_isBest_313.g ⟨Nat.le_of_ble_eq_true rfl, Nat.le_of_ble_eq_true rfl⟩ ⟨show cc ≤ 30000 by omega, show 4 * (cc) + 64 ≤ 130000 by omega⟩ xK_A hX49 (wf_gd Xt.rf ARR_GG (hD_1022)) rfl rfl rfl rfl rfl rfl rfl rfl (Nat.le_of_ble_eq_true rfl) ⟨nt_no (by decide), ⟨nt_no (by decide), trivial⟩⟩ (by decide) (q_best X p D nn 0 μ_1022 hD_1022 (by first | omega | assumption)) (fun x9 μ9 h9 => ⟨wf_gd Xt.rf ARR_GG h9.2.1, fun o ho => h9.1.at (by have h8 : (45 : Int) ≤ o := ho; omega) (by have h8 : (45 : Int) ≤ o := ho; omega)⟩) (fun x1023 μ_1023 hμ1023 => ?_)
                              obtain ⟨hF1023, hD_1023, hz_1023⟩ := hμ1023
                              have hb0 : x1023 = bl := (by rw [hz_1023]; unfold ansB; rw [if_neg hE.2.1, ← hE.2.2.1, ← hE.2.2.2.1]; rfl)
                              refine x_iload dL_isBest_316 rfl ?_
                              refine x_icmp_ne (tgt := 402) dL_isBest_318 rfl (R32.in (by omega)) (R32.in (by omega)) (fun c318 => ?_) (fun c318 => ?_)
                              · skip
                                omega
                              · skip
                                refine x_aload_n dL_isBest_321 rfl rfl (by first | decide | omega) ?_
                                refine x_iconst dL_isBest_322 ?_
                                refine x_iconst dL_isBest_323 ?_
                                refine x_callVI (o := 0) (ci := 7) (as := [(0, 0), (0, 1)]) (rest := []) (k := 0) (Gs := GG X) fL_isBest_324.g ⟨Nat.le_of_ble_eq_true rfl, Nat.le_of_ble_eq_true rfl⟩ ⟨show cc ≤ 30000 by omega, show 4 * (cc) + 64 ≤ 130000 by omega⟩ xK_A hX49 (wf_gd Xt.rf ARR_GG (hD_1023)) rfl rfl rfl rfl rfl rfl rfl rfl (Nat.le_of_ble_eq_true rfl) ⟨nt_no (by decide), ⟨nt_no (by decide), trivial⟩⟩ (by decide) (q_best X p D nn 1 μ_1023 hD_1023 (by first | omega | assumption)) (fun x9 μ9 h9 => ⟨wf_gd Xt.rf ARR_GG h9.2.1, fun o ho => h9.1.at (by have h8 : (45 : Int) ≤ o := ho; omega) (by have h8 : (45 : Int) ≤ o := ho; omega)⟩) (fun x1024 μ_1024 hμ1024 => ?_)
                                obtain ⟨hF1024, hD_1024, hz_1024⟩ := hμ1024
                                have hb1 : x1024 = br := (by rw [hz_1024]; unfold ansB; rw [if_neg hE.2.1, ← hE.2.2.1, ← hE.2.2.2.1]; show bl + (br - bl) = br; omega)
                                refine x_iload dL_isBest_327 rfl ?_
                                refine x_icmp_ne (tgt := 402) dL_isBest_329 rfl (R32.in (by omega)) (R32.in (by omega)) (fun c329 => ?_) (fun c329 => ?_)
                                · skip
                                  omega
                                · skip
                                  refine x_aload_n dL_isBest_332 rfl rfl (by first | decide | omega) ?_
                                  refine x_iconst dL_isBest_333 ?_
                                  refine x_iconst dL_isBest_334 ?_
                                  refine x_callVI (o := 0) (ci := 7) (as := [(0, 0), (0, 3)]) (rest := []) (k := 0) (Gs := GG X) fL_isBest_335.g ⟨Nat.le_of_ble_eq_true rfl, Nat.le_of_ble_eq_true rfl⟩ ⟨show cc ≤ 30000 by omega, show 4 * (cc) + 64 ≤ 130000 by omega⟩ xK_A hX49 (wf_gd Xt.rf ARR_GG (hD_1024)) rfl rfl rfl rfl rfl rfl rfl rfl (Nat.le_of_ble_eq_true rfl) ⟨nt_no (by decide), ⟨nt_no (by decide), trivial⟩⟩ (by decide) (q_best X p D nn 3 μ_1024 hD_1024 (by first | omega | assumption)) (fun x9 μ9 h9 => ⟨wf_gd Xt.rf ARR_GG h9.2.1, fun o ho => h9.1.at (by have h8 : (45 : Int) ≤ o := ho; omega) (by have h8 : (45 : Int) ≤ o := ho; omega)⟩) (fun x1025 μ_1025 hμ1025 => ?_)
                                  obtain ⟨hF1025, hD_1025, hz_1025⟩ := hμ1025
                                  have hb3 : x1025 = stm D (br - bl) bl := (by rw [hz_1025]; unfold ansB; rw [if_neg hE.2.1, ← hE.2.2.1, ← hE.2.2.2.1]; rfl)
                                  refine x_i2l dL_isBest_338 (R32.in (by omega)) ?_
                                  refine x_aload dL_isBest_339 rfl (by first | decide | omega) ?_
                                  refine x_iconst dL_isBest_341 ?_
                                  refine x_laldx (o := 48) (n := 4) (x := stm D (br - bl) bl) dL_isBest_342 rfl hs48 (Nat.le_of_ble_eq_true rfl) (by omega) ((congrFun (hF1025.at (by omega) (by omega)) _).trans ((congrFun (hF1024.at (by omega) (by omega)) _).trans ((congrFun (hF1023.at (by omega) (by omega)) _).trans ((congrFun (hF1022.at (by omega) (by omega)) _).trans ((congrFun (hF1019.at (by omega) (by omega)) _).trans ((congrFun (hF1018.at (by omega) (by omega)) _).trans ((congrFun (hF188.at (by omega) (by omega)) _).trans hJb.1.1))))))) ?_
                                  refine x_lc_ne (tgt := 402) dL_isBest_343 dL_isBest_344 rfl (R64.in (by omega)) (R64.in (by omega)) (fun c344 => ?_) (fun c344 => ?_)
                                  · skip
                                    exact (c344 hb3).elim
                                  · skip
                                    refine x_aload_n dL_isBest_347 rfl rfl (by first | decide | omega) ?_
                                    refine x_iconst dL_isBest_348 ?_
                                    refine x_iconst dL_isBest_349 ?_
                                    refine x_callVI (o := 0) (ci := 7) (as := [(0, 0), (0, 4)]) (rest := []) (k := 0) (Gs := GG X) fL_isBest_350.g ⟨Nat.le_of_ble_eq_true rfl, Nat.le_of_ble_eq_true rfl⟩ ⟨show cc ≤ 30000 by omega, show 4 * (cc) + 64 ≤ 130000 by omega⟩ xK_A hX49 (wf_gd Xt.rf ARR_GG (hD_1025)) rfl rfl rfl rfl rfl rfl rfl rfl (Nat.le_of_ble_eq_true rfl) ⟨nt_no (by decide), ⟨nt_no (by decide), trivial⟩⟩ (by decide) (q_best X p D nn 4 μ_1025 hD_1025 (by first | omega | assumption)) (fun x9 μ9 h9 => ⟨wf_gd Xt.rf ARR_GG h9.2.1, fun o ho => h9.1.at (by have h8 : (45 : Int) ≤ o := ho; omega) (by have h8 : (45 : Int) ≤ o := ho; omega)⟩) (fun x1026 μ_1026 hμ1026 => ?_)
                                    obtain ⟨hF1026, hD_1026, hz_1026⟩ := hμ1026
                                    have hb4 : x1026 = slp D (br - bl) := (by rw [hz_1026]; unfold ansB; rw [if_neg hE.2.1, ← hE.2.2.1, ← hE.2.2.2.1]; rfl)
                                    refine x_i2l dL_isBest_353 (R32.in (by omega)) ?_
                                    refine x_aload dL_isBest_354 rfl (by first | decide | omega) ?_
                                    refine x_iconst dL_isBest_356 ?_
                                    refine x_laldx (o := 48) (n := 4) (x := slp D (br - bl)) dL_isBest_357 rfl hs48 (Nat.le_of_ble_eq_true rfl) (by omega) ((congrFun (hF1026.at (by omega) (by omega)) _).trans ((congrFun (hF1025.at (by omega) (by omega)) _).trans ((congrFun (hF1024.at (by omega) (by omega)) _).trans ((congrFun (hF1023.at (by omega) (by omega)) _).trans ((congrFun (hF1022.at (by omega) (by omega)) _).trans ((congrFun (hF1019.at (by omega) (by omega)) _).trans ((congrFun (hF1018.at (by omega) (by omega)) _).trans ((congrFun (hF188.at (by omega) (by omega)) _).trans hJb.1.2)))))))) ?_
                                    refine x_lc_ne (tgt := 402) dL_isBest_358 dL_isBest_359 rfl (R64.in (by omega)) (R64.in (by omega)) (fun c359 => ?_) (fun c359 => ?_)
                                    · skip
                                      exact (c359 hb4).elim
                                    · skip
                                      refine x_aload_n dL_isBest_362 rfl rfl (by first | decide | omega) ?_
                                      refine x_iconst dL_isBest_363 ?_
                                      refine x_iconst dL_isBest_364 ?_
                                      refine x_callVI (o := 0) (ci := 7) (as := [(0, 0), (0, 5)]) (rest := []) (k := 0) (Gs := GG X) fL_isBest_365.g ⟨Nat.le_of_ble_eq_true rfl, Nat.le_of_ble_eq_true rfl⟩ ⟨show cc ≤ 30000 by omega, show 4 * (cc) + 64 ≤ 130000 by omega⟩ xK_A hX49 (wf_gd Xt.rf ARR_GG (hD_1026)) rfl rfl rfl rfl rfl rfl rfl rfl (Nat.le_of_ble_eq_true rfl) ⟨nt_no (by decide), ⟨nt_no (by decide), trivial⟩⟩ (by decide) (q_best X p D nn 5 μ_1026 hD_1026 (by first | omega | assumption)) (fun x9 μ9 h9 => ⟨wf_gd Xt.rf ARR_GG h9.2.1, fun o ho => h9.1.at (by have h8 : (45 : Int) ≤ o := ho; omega) (by have h8 : (45 : Int) ≤ o := ho; omega)⟩) (fun x1027 μ_1027 hμ1027 => ?_)
                                      obtain ⟨hF1027, hD_1027, hz_1027⟩ := hμ1027
                                      have hb5 : x1027 = stf D (br - bl) bl := (by rw [hz_1027]; unfold ansB; rw [if_neg hE.2.1, ← hE.2.2.1, ← hE.2.2.2.1]; rfl)
                                      refine x_i2l dL_isBest_368 (R32.in (by omega)) ?_
                                      refine x_aload dL_isBest_369 rfl (by first | decide | omega) ?_
                                      refine x_iconst dL_isBest_371 ?_
                                      refine x_laldx (o := 48) (n := 4) (x := stf D (br - bl) bl) dL_isBest_372 rfl hs48 (Nat.le_of_ble_eq_true rfl) (by omega) ((congrFun (hF1027.at (by omega) (by omega)) _).trans ((congrFun (hF1026.at (by omega) (by omega)) _).trans ((congrFun (hF1025.at (by omega) (by omega)) _).trans ((congrFun (hF1024.at (by omega) (by omega)) _).trans ((congrFun (hF1023.at (by omega) (by omega)) _).trans ((congrFun (hF1022.at (by omega) (by omega)) _).trans ((congrFun (hF1019.at (by omega) (by omega)) _).trans ((congrFun (hF1018.at (by omega) (by omega)) _).trans ((congrFun (hF188.at (by omega) (by omega)) _).trans hJb.2.1))))))))) ?_
                                      refine x_lc_ne (tgt := 402) dL_isBest_373 dL_isBest_374 rfl (R64.in (by omega)) (R64.in (by omega)) (fun c374 => ?_) (fun c374 => ?_)
                                      · skip
                                        exact (c374 hb5).elim
                                      · skip
                                        refine x_aload_n dL_isBest_377 rfl rfl (by first | decide | omega) ?_
                                        refine x_iconst dL_isBest_378 ?_
                                        refine x_iconst dL_isBest_379 ?_
                                        refine x_callVI (o := 0) (ci := 7) (as := [(0, 0), (0, 2)]) (rest := []) (k := 0) (Gs := GG X) fL_isBest_380.g ⟨Nat.le_of_ble_eq_true rfl, Nat.le_of_ble_eq_true rfl⟩ ⟨show cc ≤ 30000 by omega, show 4 * (cc) + 64 ≤ 130000 by omega⟩ xK_A hX49 (wf_gd Xt.rf ARR_GG (hD_1027)) rfl rfl rfl rfl rfl rfl rfl rfl (Nat.le_of_ble_eq_true rfl) ⟨nt_no (by decide), ⟨nt_no (by decide), trivial⟩⟩ (by decide) (q_best X p D nn 2 μ_1027 hD_1027 (by first | omega | assumption)) (fun x9 μ9 h9 => ⟨wf_gd Xt.rf ARR_GG h9.2.1, fun o ho => h9.1.at (by have h8 : (45 : Int) ≤ o := ho; omega) (by have h8 : (45 : Int) ≤ o := ho; omega)⟩) (fun x1028 μ_1028 hμ1028 => ?_)
                                        obtain ⟨hF1028, hD_1028, hz_1028⟩ := hμ1028
                                        have hb2 : x1028 = stm D (br - bl) bl + slp D (br - bl) + stf D (br - bl) bl := (by rw [hz_1028]; unfold ansB; rw [if_neg hE.2.1, ← hE.2.2.1, ← hE.2.2.2.1]; rfl)
                                        refine x_i2l dL_isBest_383 (R32.in (by omega)) ?_
                                        refine x_aload dL_isBest_384 rfl (by first | decide | omega) ?_
                                        refine x_iconst dL_isBest_386 ?_
                                        refine x_laldx (o := 48) (n := 4) (x := stm D (br - bl) bl) dL_isBest_387 rfl hs48 (Nat.le_of_ble_eq_true rfl) (by omega) ((congrFun (hF1028.at (by omega) (by omega)) _).trans ((congrFun (hF1027.at (by omega) (by omega)) _).trans ((congrFun (hF1026.at (by omega) (by omega)) _).trans ((congrFun (hF1025.at (by omega) (by omega)) _).trans ((congrFun (hF1024.at (by omega) (by omega)) _).trans ((congrFun (hF1023.at (by omega) (by omega)) _).trans ((congrFun (hF1022.at (by omega) (by omega)) _).trans ((congrFun (hF1019.at (by omega) (by omega)) _).trans ((congrFun (hF1018.at (by omega) (by omega)) _).trans ((congrFun (hF188.at (by omega) (by omega)) _).trans hJb.1.1)))))))))) ?_
                                        refine x_aload dL_isBest_388 rfl (by first | decide | omega) ?_
                                        refine x_iconst dL_isBest_390 ?_
                                        refine x_laldx (o := 48) (n := 4) (x := slp D (br - bl)) dL_isBest_391 rfl hs48 (Nat.le_of_ble_eq_true rfl) (by omega) ((congrFun (hF1028.at (by omega) (by omega)) _).trans ((congrFun (hF1027.at (by omega) (by omega)) _).trans ((congrFun (hF1026.at (by omega) (by omega)) _).trans ((congrFun (hF1025.at (by omega) (by omega)) _).trans ((congrFun (hF1024.at (by omega) (by omega)) _).trans ((congrFun (hF1023.at (by omega) (by omega)) _).trans ((congrFun (hF1022.at (by omega) (by omega)) _).trans ((congrFun (hF1019.at (by omega) (by omega)) _).trans ((congrFun (hF1018.at (by omega) (by omega)) _).trans ((congrFun (hF188.at (by omega) (by omega)) _).trans hJb.1.2)))))))))) ?_
                                        refine x_ladd dL_isBest_392 ?_
                                        refine x_aload dL_isBest_393 rfl (by first | decide | omega) ?_
                                        refine x_iconst dL_isBest_395 ?_
                                        refine x_laldx (o := 48) (n := 4) (x := stf D (br - bl) bl) dL_isBest_396 rfl hs48 (Nat.le_of_ble_eq_true rfl) (by omega) ((congrFun (hF1028.at (by omega) (by omega)) _).trans ((congrFun (hF1027.at (by omega) (by omega)) _).trans ((congrFun (hF1026.at (by omega) (by omega)) _).trans ((congrFun (hF1025.at (by omega) (by omega)) _).trans ((congrFun (hF1024.at (by omega) (by omega)) _).trans ((congrFun (hF1023.at (by omega) (by omega)) _).trans ((congrFun (hF1022.at (by omega) (by omega)) _).trans ((congrFun (hF1019.at (by omega) (by omega)) _).trans ((congrFun (hF1018.at (by omega) (by omega)) _).trans ((congrFun (hF188.at (by omega) (by omega)) _).trans hJb.2.1)))))))))) ?_
                                        refine x_ladd dL_isBest_397 ?_
                                        refine x_lc_eq (tgt := 404) dL_isBest_398 dL_isBest_399 rfl (R64.in (by omega)) (R64.in (by omega)) (fun c399 => ?_) (fun c399 => ?_)
                                        · skip
                                          refine Gx.fgl (ls' := [(2, 0), (3, 13), (2, 45), (0, dN D), (2, 46), (2, 47), (0, bl), (0, br), (0, al), (2, 48), (9, 0), (9, 0), (9, 0), (9, 0), (9, 0), (9, 0), (9, 0), (9, 0)]) 10 rfl ?_
                                          refine s_L_isBestC (ax (ax (ax G (20, nn) q46) (20, nn) q47) (23, 4) qb) X p D nn bl br al cc G (ibP G μ) μ_1028 hlen49 hX49 hA49 hs45 hs46 hs47 hs48 (hD_1028) ((LD.cg hLD (fun o h1 => ((hF1028.at (by omega) (by omega)).trans ((hF1027.at (by omega) (by omega)).trans ((hF1026.at (by omega) (by omega)).trans ((hF1025.at (by omega) (by omega)).trans ((hF1024.at (by omega) (by omega)).trans ((hF1023.at (by omega) (by omega)).trans ((hF1022.at (by omega) (by omega)).trans ((hF1019.at (by omega) (by omega)).trans ((hF1018.at (by omega) (by omega)).trans ((hF188.at (by omega) (by omega)).trans ((hFJ1.at (by omega) (by omega)).trans (hF50.at (by omega) (by omega)))))))))))))))) ((LW.cg hW50 (fun o h1 => ((hF1028.at (by omega) (by omega)).trans ((hF1027.at (by omega) (by omega)).trans ((hF1026.at (by omega) (by omega)).trans ((hF1025.at (by omega) (by omega)).trans ((hF1024.at (by omega) (by omega)).trans ((hF1023.at (by omega) (by omega)).trans ((hF1022.at (by omega) (by omega)).trans ((hF1019.at (by omega) (by omega)).trans ((hF1018.at (by omega) (by omega)).trans ((hF188.at (by omega) (by omega)).trans (hFJ1.at (by omega) (by omega))))))))))))))) ⟨hB2.1, hB2.2.1⟩ hE.1 (by omega) (fun cs9 ss9 μ9 hcs9 hss9 hF9 => ?_)
                                          have hfin : Fr 6 19 46 60 μ9 μ := ((hF9.wd (by omega) (by omega)).tr ((hF1028.wd (by omega) (by omega)).tr ((hF1027.wd (by omega) (by omega)).tr ((hF1026.wd (by omega) (by omega)).tr ((hF1025.wd (by omega) (by omega)).tr ((hF1024.wd (by omega) (by omega)).tr ((hF1023.wd (by omega) (by omega)).tr ((hF1022.wd (by omega) (by omega)).tr ((hF1019.wd (by omega) (by omega)).tr ((hF1018.wd (by omega) (by omega)).tr ((hF188.wd (by omega) (by omega)).tr ((hFJ1.wd (by omega) (by omega)).tr ((hF50.wd (by omega) (by omega)).tr (hF11.wd (by omega) (by omega)))))))))))))))
                                          refine Gx.loc (ls' := [(9, 0), (9, 0), (9, 0), (9, 0), (9, 0), (9, 0), (9, 0), (9, 0), (9, 0), (9, 0), (9, 0), (9, 0), (9, 0), (9, 0), (9, 0), (9, 0), (9, 0), (9, 0)]) (fun q9 hq9 => by simp [am_l] at hq9) ?_
                                          refine Gx.drop (wf_gd hX48 hA48 ((GD.cg hD_1028 (fun o h1 => (hF9.at (by omega) (by omega)))))) (by rw [hlen48]; exact ⟨nt_no (by decide), ⟨nt_no (by decide), ⟨nt_no (by decide), ⟨nt_no (by decide), ⟨nt_no (by decide), ⟨nt_no (by decide), ⟨nt_no (by decide), ⟨nt_no (by decide), ⟨nt_no (by decide), ⟨nt_no (by decide), ⟨nt_no (by decide), ⟨nt_no (by decide), ⟨nt_no (by decide), ⟨nt_no (by decide), ⟨nt_no (by decide), ⟨nt_no (by decide), ⟨nt_no (by decide), ⟨nt_no (by decide), trivial⟩⟩⟩⟩⟩⟩⟩⟩⟩⟩⟩⟩⟩⟩⟩⟩⟩⟩) (by rw [hlen48]; exact ⟨nt_no (by decide), trivial⟩) ?_
                                          refine Gx.drop (wf_gd hX47 hA47 ((GD.cg hD_1028 (fun o h1 => (hF9.at (by omega) (by omega)))))) (by rw [hlen47]; exact ⟨nt_no (by decide), ⟨nt_no (by decide), ⟨nt_no (by decide), ⟨nt_no (by decide), ⟨nt_no (by decide), ⟨nt_no (by decide), ⟨nt_no (by decide), ⟨nt_no (by decide), ⟨nt_no (by decide), ⟨nt_no (by decide), ⟨nt_no (by decide), ⟨nt_no (by decide), ⟨nt_no (by decide), ⟨nt_no (by decide), ⟨nt_no (by decide), ⟨nt_no (by decide), ⟨nt_no (by decide), ⟨nt_no (by decide), trivial⟩⟩⟩⟩⟩⟩⟩⟩⟩⟩⟩⟩⟩⟩⟩⟩⟩⟩) (by rw [hlen47]; exact ⟨nt_no (by decide), trivial⟩) ?_
                                          refine Gx.drop (wf_gd hX46 hA46 ((GD.cg hD_1028 (fun o h1 => (hF9.at (by omega) (by omega)))))) (by rw [hlen46]; exact ⟨nt_no (by decide), ⟨nt_no (by decide), ⟨nt_no (by decide), ⟨nt_no (by decide), ⟨nt_no (by decide), ⟨nt_no (by decide), ⟨nt_no (by decide), ⟨nt_no (by decide), ⟨nt_no (by decide), ⟨nt_no (by decide), ⟨nt_no (by decide), ⟨nt_no (by decide), ⟨nt_no (by decide), ⟨nt_no (by decide), ⟨nt_no (by decide), ⟨nt_no (by decide), ⟨nt_no (by decide), ⟨nt_no (by decide), trivial⟩⟩⟩⟩⟩⟩⟩⟩⟩⟩⟩⟩⟩⟩⟩⟩⟩⟩) (by rw [hlen46]; exact ⟨nt_no (by decide), trivial⟩) ?_
                                          exact x_zretX dL_isBest_744 rfl (Or.inr rfl) ⟨by omega, by omega⟩ Xt.rf ⟨rfl, rfl, fun o h1 h2 => hfin.at (by omega) (by omega)⟩
                                        · skip
                                          exact (c399 hb2).elim
                            · skip
                              omega
                      · skip
                        replace c240 := am_b1 c240
                        refine x_iconst dL_isBest_243 ?_
                        refine x_goto (tgt := 248) dL_isBest_244 rfl ?_
                        refine x_icmp_ne (tgt := 277) dL_isBest_248 rfl (R32.in (by omega)) (R32.in (by decide)) (fun c248 => ?_) (fun c248 => ?_)
                        · skip
                          rw [hg2, am_b, if_pos c240] at c248; exact (c248 rfl).elim
                        · skip
                          refine x_aload_n dL_isBest_251 rfl rfl (by first | decide | omega) ?_
                          refine x_iconst dL_isBest_252 ?_
                          refine x_iconst dL_isBest_253 ?_
                          refine x_callVI (o := 0) (ci := 7) (as := [(0, 0), (0, 3)]) (rest := []) (k := 0) (Gs := GG X) fL_isBest_254.g ⟨Nat.le_of_ble_eq_true rfl, Nat.le_of_ble_eq_true rfl⟩ ⟨show cc ≤ 30000 by omega, show 4 * (cc) + 64 ≤ 130000 by omega⟩ xK_A hX49 (wf_gd Xt.rf ARR_GG (hD_1018)) rfl rfl rfl rfl rfl rfl rfl rfl (Nat.le_of_ble_eq_true rfl) ⟨nt_no (by decide), ⟨nt_no (by decide), trivial⟩⟩ (by decide) (q_group X p D nn 3 μ_1018 hD_1018 (by first | omega | assumption)) (fun x9 μ9 h9 => ⟨wf_gd Xt.rf ARR_GG h9.2.1, fun o ho => h9.1.at (by have h8 : (45 : Int) ≤ o := ho; omega) (by have h8 : (45 : Int) ≤ o := ho; omega)⟩) (fun x1029 μ_1029 hμ1029 => ?_)
                          obtain ⟨hF1029, hD_1029, hz_1029⟩ := hμ1029
                          have hg3 : x1029 = dX D (dN D - 1) := hz_1029
                          refine x_aload dL_isBest_257 rfl (by first | decide | omega) ?_
                          refine x_iload_n dL_isBest_259 rfl rfl ?_
                          refine x_iconst dL_isBest_260 ?_
                          refine x_isub dL_isBest_261 ?_
                          refine x_ialdx (o := 46) (n := nn) (x := dX D ((dN D) - 1)) dL_isBest_262 rfl hs46 (by omega) (by omega) ((congrFun (hF1029.at (by omega) (by omega)) _).trans ((congrFun (hF1018.at (by omega) (by omega)) _).trans ((congrFun (hF188.at (by omega) (by omega)) _).trans ((congrFun (hFJ1.at (by omega) (by omega)) _).trans ((congrFun (hF50.at (by omega) (by omega)) _).trans (hLD.x (by omega))))))) ?_
                          have hr1030 := (hLD.ok).xs (i := ((dN D) - 1)) (by omega)
                          have hr1031 := hok.xs (i := ((dN D) - 1)) (by omega)
                          refine x_icmp_ne (tgt := 277) dL_isBest_263 rfl (R32.in (by omega)) (R32.in (by omega)) (fun c263 => ?_) (fun c263 => ?_)
                          · skip
                            exact (c263 hg3).elim
                          · skip
                            refine x_aload_n dL_isBest_266 rfl rfl (by first | decide | omega) ?_
                            refine x_iconst dL_isBest_267 ?_
                            refine x_iconst dL_isBest_268 ?_
                            refine x_callVI (o := 0) (ci := 7) (as := [(0, 0), (0, 5)]) (rest := []) (k := 0) (Gs := GG X) fL_isBest_269.g ⟨Nat.le_of_ble_eq_true rfl, Nat.le_of_ble_eq_true rfl⟩ ⟨show cc ≤ 30000 by omega, show 4 * (cc) + 64 ≤ 130000 by omega⟩ xK_A hX49 (wf_gd Xt.rf ARR_GG (hD_1029)) rfl rfl rfl rfl rfl rfl rfl rfl (Nat.le_of_ble_eq_true rfl) ⟨nt_no (by decide), ⟨nt_no (by decide), trivial⟩⟩ (by decide) (q_group X p D nn 5 μ_1029 hD_1029 (by first | omega | assumption)) (fun x9 μ9 h9 => ⟨wf_gd Xt.rf ARR_GG h9.2.1, fun o ho => h9.1.at (by have h8 : (45 : Int) ≤ o := ho; omega) (by have h8 : (45 : Int) ≤ o := ho; omega)⟩) (fun x1032 μ_1032 hμ1032 => ?_)
                            obtain ⟨hF1032, hD_1032, hz_1032⟩ := hμ1032
                            have hg5 : x1032 = cnD D := hz_1032
                            have hg6 := hE.1
                            refine x_iload dL_isBest_272 rfl ?_
                            refine x_icmp_eq (tgt := 279) dL_isBest_274 rfl (R32.in (by omega)) (R32.in (by omega)) (fun c274 => ?_) (fun c274 => ?_)
                            · skip
                              refine x_aload dL_isBest_279 rfl (by first | decide | omega) ?_
                              refine x_ifnonnull_r (tgt := 310) dL_isBest_281 rfl (by omega) ?_
                              refine x_aload_n dL_isBest_310 rfl rfl (by first | decide | omega) ?_
                              refine x_iconst dL_isBest_311 ?_
                              refine x_iconst dL_isBest_312 ?_
                              refine x_callVI (o := 0) (ci := 7) (as := [(0, 0), (0, 0)]) (rest := []) (k := 0) (Gs := GG X) fL_isBest_313.g ⟨Nat.le_of_ble_eq_true rfl, Nat.le_of_ble_eq_true rfl⟩ ⟨show cc ≤ 30000 by omega, show 4 * (cc) + 64 ≤ 130000 by omega⟩ xK_A hX49 (wf_gd Xt.rf ARR_GG (hD_1032)) rfl rfl rfl rfl rfl rfl rfl rfl (Nat.le_of_ble_eq_true rfl) ⟨nt_no (by decide), ⟨nt_no (by decide), trivial⟩⟩ (by decide) (q_best X p D nn 0 μ_1032 hD_1032 (by first | omega | assumption)) (fun x9 μ9 h9 => ⟨wf_gd Xt.rf ARR_GG h9.2.1, fun o ho => h9.1.at (by have h8 : (45 : Int) ≤ o := ho; omega) (by have h8 : (45 : Int) ≤ o := ho; omega)⟩) (fun x1033 μ_1033 hμ1033 => ?_)
                              obtain ⟨hF1033, hD_1033, hz_1033⟩ := hμ1033
                              have hb0 : x1033 = bl := (by rw [hz_1033]; unfold ansB; rw [if_neg hE.2.1, ← hE.2.2.1, ← hE.2.2.2.1]; rfl)
                              refine x_iload dL_isBest_316 rfl ?_
                              refine x_icmp_ne (tgt := 402) dL_isBest_318 rfl (R32.in (by omega)) (R32.in (by omega)) (fun c318 => ?_) (fun c318 => ?_)
                              · skip
                                omega
                              · skip
                                refine x_aload_n dL_isBest_321 rfl rfl (by first | decide | omega) ?_
                                refine x_iconst dL_isBest_322 ?_
                                refine x_iconst dL_isBest_323 ?_
                                refine x_callVI (o := 0) (ci := 7) (as := [(0, 0), (0, 1)]) (rest := []) (k := 0) (Gs := GG X) fL_isBest_324.g ⟨Nat.le_of_ble_eq_true rfl, Nat.le_of_ble_eq_true rfl⟩ ⟨show cc ≤ 30000 by omega, show 4 * (cc) + 64 ≤ 130000 by omega⟩ xK_A hX49 (wf_gd Xt.rf ARR_GG (hD_1033)) rfl rfl rfl rfl rfl rfl rfl rfl (Nat.le_of_ble_eq_true rfl) ⟨nt_no (by decide), ⟨nt_no (by decide), trivial⟩⟩ (by decide) (q_best X p D nn 1 μ_1033 hD_1033 (by first | omega | assumption)) (fun x9 μ9 h9 => ⟨wf_gd Xt.rf ARR_GG h9.2.1, fun o ho => h9.1.at (by have h8 : (45 : Int) ≤ o := ho; omega) (by have h8 : (45 : Int) ≤ o := ho; omega)⟩) (fun x1034 μ_1034 hμ1034 => ?_)
                                obtain ⟨hF1034, hD_1034, hz_1034⟩ := hμ1034
                                have hb1 : x1034 = br := (by rw [hz_1034]; unfold ansB; rw [if_neg hE.2.1, ← hE.2.2.1, ← hE.2.2.2.1]; show bl + (br - bl) = br; omega)
                                refine x_iload dL_isBest_327 rfl ?_
                                refine x_icmp_ne (tgt := 402) dL_isBest_329 rfl (R32.in (by omega)) (R32.in (by omega)) (fun c329 => ?_) (fun c329 => ?_)
                                · skip
                                  omega
                                · skip
                                  refine x_aload_n dL_isBest_332 rfl rfl (by first | decide | omega) ?_
                                  refine x_iconst dL_isBest_333 ?_
                                  refine x_iconst dL_isBest_334 ?_
                                  refine x_callVI (o := 0) (ci := 7) (as := [(0, 0), (0, 3)]) (rest := []) (k := 0) (Gs := GG X) fL_isBest_335.g ⟨Nat.le_of_ble_eq_true rfl, Nat.le_of_ble_eq_true rfl⟩ ⟨show cc ≤ 30000 by omega, show 4 * (cc) + 64 ≤ 130000 by omega⟩ xK_A hX49 (wf_gd Xt.rf ARR_GG (hD_1034)) rfl rfl rfl rfl rfl rfl rfl rfl (Nat.le_of_ble_eq_true rfl) ⟨nt_no (by decide), ⟨nt_no (by decide), trivial⟩⟩ (by decide) (q_best X p D nn 3 μ_1034 hD_1034 (by first | omega | assumption)) (fun x9 μ9 h9 => ⟨wf_gd Xt.rf ARR_GG h9.2.1, fun o ho => h9.1.at (by have h8 : (45 : Int) ≤ o := ho; omega) (by have h8 : (45 : Int) ≤ o := ho; omega)⟩) (fun x1035 μ_1035 hμ1035 => ?_)
                                  obtain ⟨hF1035, hD_1035, hz_1035⟩ := hμ1035
                                  have hb3 : x1035 = stm D (br - bl) bl := (by rw [hz_1035]; unfold ansB; rw [if_neg hE.2.1, ← hE.2.2.1, ← hE.2.2.2.1]; rfl)
                                  refine x_i2l dL_isBest_338 (R32.in (by omega)) ?_
                                  refine x_aload dL_isBest_339 rfl (by first | decide | omega) ?_
                                  refine x_iconst dL_isBest_341 ?_
                                  refine x_laldx (o := 48) (n := 4) (x := stm D (br - bl) bl) dL_isBest_342 rfl hs48 (Nat.le_of_ble_eq_true rfl) (by omega) ((congrFun (hF1035.at (by omega) (by omega)) _).trans ((congrFun (hF1034.at (by omega) (by omega)) _).trans ((congrFun (hF1033.at (by omega) (by omega)) _).trans ((congrFun (hF1032.at (by omega) (by omega)) _).trans ((congrFun (hF1029.at (by omega) (by omega)) _).trans ((congrFun (hF1018.at (by omega) (by omega)) _).trans ((congrFun (hF188.at (by omega) (by omega)) _).trans hJb.1.1))))))) ?_
                                  refine x_lc_ne (tgt := 402) dL_isBest_343 dL_isBest_344 rfl (R64.in (by omega)) (R64.in (by omega)) (fun c344 => ?_) (fun c344 => ?_)
                                  · skip
                                    exact (c344 hb3).elim
                                  · skip
                                    refine x_aload_n dL_isBest_347 rfl rfl (by first | decide | omega) ?_
                                    refine x_iconst dL_isBest_348 ?_
                                    refine x_iconst dL_isBest_349 ?_
                                    refine x_callVI (o := 0) (ci := 7) (as := [(0, 0), (0, 4)]) (rest := []) (k := 0) (Gs := GG X) fL_isBest_350.g ⟨Nat.le_of_ble_eq_true rfl, Nat.le_of_ble_eq_true rfl⟩ ⟨show cc ≤ 30000 by omega, show 4 * (cc) + 64 ≤ 130000 by omega⟩ xK_A hX49 (wf_gd Xt.rf ARR_GG (hD_1035)) rfl rfl rfl rfl rfl rfl rfl rfl (Nat.le_of_ble_eq_true rfl) ⟨nt_no (by decide), ⟨nt_no (by decide), trivial⟩⟩ (by decide) (q_best X p D nn 4 μ_1035 hD_1035 (by first | omega | assumption)) (fun x9 μ9 h9 => ⟨wf_gd Xt.rf ARR_GG h9.2.1, fun o ho => h9.1.at (by have h8 : (45 : Int) ≤ o := ho; omega) (by have h8 : (45 : Int) ≤ o := ho; omega)⟩) (fun x1036 μ_1036 hμ1036 => ?_)
                                    obtain ⟨hF1036, hD_1036, hz_1036⟩ := hμ1036
                                    have hb4 : x1036 = slp D (br - bl) := (by rw [hz_1036]; unfold ansB; rw [if_neg hE.2.1, ← hE.2.2.1, ← hE.2.2.2.1]; rfl)
                                    refine x_i2l dL_isBest_353 (R32.in (by omega)) ?_
                                    refine x_aload dL_isBest_354 rfl (by first | decide | omega) ?_
                                    refine x_iconst dL_isBest_356 ?_
                                    refine x_laldx (o := 48) (n := 4) (x := slp D (br - bl)) dL_isBest_357 rfl hs48 (Nat.le_of_ble_eq_true rfl) (by omega) ((congrFun (hF1036.at (by omega) (by omega)) _).trans ((congrFun (hF1035.at (by omega) (by omega)) _).trans ((congrFun (hF1034.at (by omega) (by omega)) _).trans ((congrFun (hF1033.at (by omega) (by omega)) _).trans ((congrFun (hF1032.at (by omega) (by omega)) _).trans ((congrFun (hF1029.at (by omega) (by omega)) _).trans ((congrFun (hF1018.at (by omega) (by omega)) _).trans ((congrFun (hF188.at (by omega) (by omega)) _).trans hJb.1.2)))))))) ?_
                                    refine x_lc_ne (tgt := 402) dL_isBest_358 dL_isBest_359 rfl (R64.in (by omega)) (R64.in (by omega)) (fun c359 => ?_) (fun c359 => ?_)
                                    · skip
                                      exact (c359 hb4).elim
                                    · skip
                                      refine x_aload_n dL_isBest_362 rfl rfl (by first | decide | omega) ?_
                                      refine x_iconst dL_isBest_363 ?_
                                      refine x_iconst dL_isBest_364 ?_
                                      refine x_callVI (o := 0) (ci := 7) (as := [(0, 0), (0, 5)]) (rest := []) (k := 0) (Gs := GG X) fL_isBest_365.g ⟨Nat.le_of_ble_eq_true rfl, Nat.le_of_ble_eq_true rfl⟩ ⟨show cc ≤ 30000 by omega, show 4 * (cc) + 64 ≤ 130000 by omega⟩ xK_A hX49 (wf_gd Xt.rf ARR_GG (hD_1036)) rfl rfl rfl rfl rfl rfl rfl rfl (Nat.le_of_ble_eq_true rfl) ⟨nt_no (by decide), ⟨nt_no (by decide), trivial⟩⟩ (by decide) (q_best X p D nn 5 μ_1036 hD_1036 (by first | omega | assumption)) (fun x9 μ9 h9 => ⟨wf_gd Xt.rf ARR_GG h9.2.1, fun o ho => h9.1.at (by have h8 : (45 : Int) ≤ o := ho; omega) (by have h8 : (45 : Int) ≤ o := ho; omega)⟩) (fun x1037 μ_1037 hμ1037 => ?_)
                                      obtain ⟨hF1037, hD_1037, hz_1037⟩ := hμ1037
                                      have hb5 : x1037 = stf D (br - bl) bl := (by rw [hz_1037]; unfold ansB; rw [if_neg hE.2.1, ← hE.2.2.1, ← hE.2.2.2.1]; rfl)
                                      refine x_i2l dL_isBest_368 (R32.in (by omega)) ?_
                                      refine x_aload dL_isBest_369 rfl (by first | decide | omega) ?_
                                      refine x_iconst dL_isBest_371 ?_
                                      refine x_laldx (o := 48) (n := 4) (x := stf D (br - bl) bl) dL_isBest_372 rfl hs48 (Nat.le_of_ble_eq_true rfl) (by omega) ((congrFun (hF1037.at (by omega) (by omega)) _).trans ((congrFun (hF1036.at (by omega) (by omega)) _).trans ((congrFun (hF1035.at (by omega) (by omega)) _).trans ((congrFun (hF1034.at (by omega) (by omega)) _).trans ((congrFun (hF1033.at (by omega) (by omega)) _).trans ((congrFun (hF1032.at (by omega) (by omega)) _).trans ((congrFun (hF1029.at (by omega) (by omega)) _).trans ((congrFun (hF1018.at (by omega) (by omega)) _).trans ((congrFun (hF188.at (by omega) (by omega)) _).trans hJb.2.1))))))))) ?_
                                      refine x_lc_ne (tgt := 402) dL_isBest_373 dL_isBest_374 rfl (R64.in (by omega)) (R64.in (by omega)) (fun c374 => ?_) (fun c374 => ?_)
                                      · skip
                                        exact (c374 hb5).elim
                                      · skip
                                        refine x_aload_n dL_isBest_377 rfl rfl (by first | decide | omega) ?_
                                        refine x_iconst dL_isBest_378 ?_
                                        refine x_iconst dL_isBest_379 ?_
                                        refine x_callVI (o := 0) (ci := 7) (as := [(0, 0), (0, 2)]) (rest := []) (k := 0) (Gs := GG X) fL_isBest_380.g ⟨Nat.le_of_ble_eq_true rfl, Nat.le_of_ble_eq_true rfl⟩ ⟨show cc ≤ 30000 by omega, show 4 * (cc) + 64 ≤ 130000 by omega⟩ xK_A hX49 (wf_gd Xt.rf ARR_GG (hD_1037)) rfl rfl rfl rfl rfl rfl rfl rfl (Nat.le_of_ble_eq_true rfl) ⟨nt_no (by decide), ⟨nt_no (by decide), trivial⟩⟩ (by decide) (q_best X p D nn 2 μ_1037 hD_1037 (by first | omega | assumption)) (fun x9 μ9 h9 => ⟨wf_gd Xt.rf ARR_GG h9.2.1, fun o ho => h9.1.at (by have h8 : (45 : Int) ≤ o := ho; omega) (by have h8 : (45 : Int) ≤ o := ho; omega)⟩) (fun x1038 μ_1038 hμ1038 => ?_)
                                        obtain ⟨hF1038, hD_1038, hz_1038⟩ := hμ1038
                                        have hb2 : x1038 = stm D (br - bl) bl + slp D (br - bl) + stf D (br - bl) bl := (by rw [hz_1038]; unfold ansB; rw [if_neg hE.2.1, ← hE.2.2.1, ← hE.2.2.2.1]; rfl)
                                        refine x_i2l dL_isBest_383 (R32.in (by omega)) ?_
                                        refine x_aload dL_isBest_384 rfl (by first | decide | omega) ?_
                                        refine x_iconst dL_isBest_386 ?_
                                        refine x_laldx (o := 48) (n := 4) (x := stm D (br - bl) bl) dL_isBest_387 rfl hs48 (Nat.le_of_ble_eq_true rfl) (by omega) ((congrFun (hF1038.at (by omega) (by omega)) _).trans ((congrFun (hF1037.at (by omega) (by omega)) _).trans ((congrFun (hF1036.at (by omega) (by omega)) _).trans ((congrFun (hF1035.at (by omega) (by omega)) _).trans ((congrFun (hF1034.at (by omega) (by omega)) _).trans ((congrFun (hF1033.at (by omega) (by omega)) _).trans ((congrFun (hF1032.at (by omega) (by omega)) _).trans ((congrFun (hF1029.at (by omega) (by omega)) _).trans ((congrFun (hF1018.at (by omega) (by omega)) _).trans ((congrFun (hF188.at (by omega) (by omega)) _).trans hJb.1.1)))))))))) ?_
                                        refine x_aload dL_isBest_388 rfl (by first | decide | omega) ?_
                                        refine x_iconst dL_isBest_390 ?_
                                        refine x_laldx (o := 48) (n := 4) (x := slp D (br - bl)) dL_isBest_391 rfl hs48 (Nat.le_of_ble_eq_true rfl) (by omega) ((congrFun (hF1038.at (by omega) (by omega)) _).trans ((congrFun (hF1037.at (by omega) (by omega)) _).trans ((congrFun (hF1036.at (by omega) (by omega)) _).trans ((congrFun (hF1035.at (by omega) (by omega)) _).trans ((congrFun (hF1034.at (by omega) (by omega)) _).trans ((congrFun (hF1033.at (by omega) (by omega)) _).trans ((congrFun (hF1032.at (by omega) (by omega)) _).trans ((congrFun (hF1029.at (by omega) (by omega)) _).trans ((congrFun (hF1018.at (by omega) (by omega)) _).trans ((congrFun (hF188.at (by omega) (by omega)) _).trans hJb.1.2)))))))))) ?_
                                        refine x_ladd dL_isBest_392 ?_
                                        refine x_aload dL_isBest_393 rfl (by first | decide | omega) ?_
                                        refine x_iconst dL_isBest_395 ?_
                                        refine x_laldx (o := 48) (n := 4) (x := stf D (br - bl) bl) dL_isBest_396 rfl hs48 (Nat.le_of_ble_eq_true rfl) (by omega) ((congrFun (hF1038.at (by omega) (by omega)) _).trans ((congrFun (hF1037.at (by omega) (by omega)) _).trans ((congrFun (hF1036.at (by omega) (by omega)) _).trans ((congrFun (hF1035.at (by omega) (by omega)) _).trans ((congrFun (hF1034.at (by omega) (by omega)) _).trans ((congrFun (hF1033.at (by omega) (by omega)) _).trans ((congrFun (hF1032.at (by omega) (by omega)) _).trans ((congrFun (hF1029.at (by omega) (by omega)) _).trans ((congrFun (hF1018.at (by omega) (by omega)) _).trans ((congrFun (hF188.at (by omega) (by omega)) _).trans hJb.2.1)))))))))) ?_
                                        refine x_ladd dL_isBest_397 ?_
                                        refine x_lc_eq (tgt := 404) dL_isBest_398 dL_isBest_399 rfl (R64.in (by omega)) (R64.in (by omega)) (fun c399 => ?_) (fun c399 => ?_)
                                        · skip
                                          refine Gx.fgl (ls' := [(2, 0), (3, 13), (2, 45), (0, dN D), (2, 46), (2, 47), (0, bl), (0, br), (0, al), (2, 48), (9, 0), (9, 0), (9, 0), (9, 0), (9, 0), (9, 0), (9, 0), (9, 0)]) 10 rfl ?_
                                          refine s_L_isBestC (ax (ax (ax G (20, nn) q46) (20, nn) q47) (23, 4) qb) X p D nn bl br al cc G (ibP G μ) μ_1038 hlen49 hX49 hA49 hs45 hs46 hs47 hs48 (hD_1038) ((LD.cg hLD (fun o h1 => ((hF1038.at (by omega) (by omega)).trans ((hF1037.at (by omega) (by omega)).trans ((hF1036.at (by omega) (by omega)).trans ((hF1035.at (by omega) (by omega)).trans ((hF1034.at (by omega) (by omega)).trans ((hF1033.at (by omega) (by omega)).trans ((hF1032.at (by omega) (by omega)).trans ((hF1029.at (by omega) (by omega)).trans ((hF1018.at (by omega) (by omega)).trans ((hF188.at (by omega) (by omega)).trans ((hFJ1.at (by omega) (by omega)).trans (hF50.at (by omega) (by omega)))))))))))))))) ((LW.cg hW50 (fun o h1 => ((hF1038.at (by omega) (by omega)).trans ((hF1037.at (by omega) (by omega)).trans ((hF1036.at (by omega) (by omega)).trans ((hF1035.at (by omega) (by omega)).trans ((hF1034.at (by omega) (by omega)).trans ((hF1033.at (by omega) (by omega)).trans ((hF1032.at (by omega) (by omega)).trans ((hF1029.at (by omega) (by omega)).trans ((hF1018.at (by omega) (by omega)).trans ((hF188.at (by omega) (by omega)).trans (hFJ1.at (by omega) (by omega))))))))))))))) ⟨hB2.1, hB2.2.1⟩ hE.1 (by omega) (fun cs9 ss9 μ9 hcs9 hss9 hF9 => ?_)
                                          have hfin : Fr 6 19 46 60 μ9 μ := ((hF9.wd (by omega) (by omega)).tr ((hF1038.wd (by omega) (by omega)).tr ((hF1037.wd (by omega) (by omega)).tr ((hF1036.wd (by omega) (by omega)).tr ((hF1035.wd (by omega) (by omega)).tr ((hF1034.wd (by omega) (by omega)).tr ((hF1033.wd (by omega) (by omega)).tr ((hF1032.wd (by omega) (by omega)).tr ((hF1029.wd (by omega) (by omega)).tr ((hF1018.wd (by omega) (by omega)).tr ((hF188.wd (by omega) (by omega)).tr ((hFJ1.wd (by omega) (by omega)).tr ((hF50.wd (by omega) (by omega)).tr (hF11.wd (by omega) (by omega)))))))))))))))
                                          refine Gx.loc (ls' := [(9, 0), (9, 0), (9, 0), (9, 0), (9, 0), (9, 0), (9, 0), (9, 0), (9, 0), (9, 0), (9, 0), (9, 0), (9, 0), (9, 0), (9, 0), (9, 0), (9, 0), (9, 0)]) (fun q9 hq9 => by simp [am_l] at hq9) ?_
                                          refine Gx.drop (wf_gd hX48 hA48 ((GD.cg hD_1038 (fun o h1 => (hF9.at (by omega) (by omega)))))) (by rw [hlen48]; exact ⟨nt_no (by decide), ⟨nt_no (by decide), ⟨nt_no (by decide), ⟨nt_no (by decide), ⟨nt_no (by decide), ⟨nt_no (by decide), ⟨nt_no (by decide), ⟨nt_no (by decide), ⟨nt_no (by decide), ⟨nt_no (by decide), ⟨nt_no (by decide), ⟨nt_no (by decide), ⟨nt_no (by decide), ⟨nt_no (by decide), ⟨nt_no (by decide), ⟨nt_no (by decide), ⟨nt_no (by decide), ⟨nt_no (by decide), trivial⟩⟩⟩⟩⟩⟩⟩⟩⟩⟩⟩⟩⟩⟩⟩⟩⟩⟩) (by rw [hlen48]; exact ⟨nt_no (by decide), trivial⟩) ?_
                                          refine Gx.drop (wf_gd hX47 hA47 ((GD.cg hD_1038 (fun o h1 => (hF9.at (by omega) (by omega)))))) (by rw [hlen47]; exact ⟨nt_no (by decide), ⟨nt_no (by decide), ⟨nt_no (by decide), ⟨nt_no (by decide), ⟨nt_no (by decide), ⟨nt_no (by decide), ⟨nt_no (by decide), ⟨nt_no (by decide), ⟨nt_no (by decide), ⟨nt_no (by decide), ⟨nt_no (by decide), ⟨nt_no (by decide), ⟨nt_no (by decide), ⟨nt_no (by decide), ⟨nt_no (by decide), ⟨nt_no (by decide), ⟨nt_no (by decide), ⟨nt_no (by decide), trivial⟩⟩⟩⟩⟩⟩⟩⟩⟩⟩⟩⟩⟩⟩⟩⟩⟩⟩) (by rw [hlen47]; exact ⟨nt_no (by decide), trivial⟩) ?_
                                          refine Gx.drop (wf_gd hX46 hA46 ((GD.cg hD_1038 (fun o h1 => (hF9.at (by omega) (by omega)))))) (by rw [hlen46]; exact ⟨nt_no (by decide), ⟨nt_no (by decide), ⟨nt_no (by decide), ⟨nt_no (by decide), ⟨nt_no (by decide), ⟨nt_no (by decide), ⟨nt_no (by decide), ⟨nt_no (by decide), ⟨nt_no (by decide), ⟨nt_no (by decide), ⟨nt_no (by decide), ⟨nt_no (by decide), ⟨nt_no (by decide), ⟨nt_no (by decide), ⟨nt_no (by decide), ⟨nt_no (by decide), ⟨nt_no (by decide), ⟨nt_no (by decide), trivial⟩⟩⟩⟩⟩⟩⟩⟩⟩⟩⟩⟩⟩⟩⟩⟩⟩⟩) (by rw [hlen46]; exact ⟨nt_no (by decide), trivial⟩) ?_
                                          exact x_zretX dL_isBest_744 rfl (Or.inr rfl) ⟨by omega, by omega⟩ Xt.rf ⟨rfl, rfl, fun o h1 h2 => hfin.at (by omega) (by omega)⟩
                                        · skip
                                          exact (c399 hb2).elim
                            · skip
                              omega
                    · skip
                      refine x_aload_n dL_isBest_194 rfl rfl (by first | decide | omega) ?_
                      refine x_iload dL_isBest_195 rfl ?_
                      refine x_callVI (o := 0) (ci := 7) (as := [(0, i)]) (rest := []) (k := 0) (Gs := GG X) fL_isBest_197.g ⟨Nat.le_of_ble_eq_true rfl, Nat.le_of_ble_eq_true rfl⟩ ⟨show cc ≤ 30000 by omega, show 4 * (cc) + 64 ≤ 130000 by omega⟩ xK_A hX49 (wf_gd Xt.rf ARR_GG ((GD.cg hD (fun o h1 => ((hF188.at (by omega) (by omega)).trans ((hFJ1.at (by omega) (by omega)).trans ((hF50.at (by omega) (by omega)).trans (hF11.at (by omega) (by omega))))))))) rfl rfl rfl rfl rfl rfl rfl rfl (Nat.le_of_ble_eq_true rfl) ⟨nt_no (by decide), trivial⟩ (by decide) (q_direction X p D nn i μd (GD.cg hD (fun o h1 => ((hF188.at (by omega) (by omega)).trans ((hFJ1.at (by omega) (by omega)).trans ((hF50.at (by omega) (by omega)).trans (hF11.at (by omega) (by omega))))))) (by first | omega | assumption)) (fun x9 μ9 h9 => ⟨wf_gd Xt.rf ARR_GG h9.2.1, fun o ho => h9.1.at (by have h8 : (45 : Int) ≤ o := ho; omega) (by have h8 : (45 : Int) ≤ o := ho; omega)⟩) (fun x1039 μ_1039 hμ1039 => ?_)
                      obtain ⟨hF1039, hD_1039, hz_1039⟩ := hμ1039
                      refine x_aload dL_isBest_200 rfl (by first | decide | omega) ?_
                      refine x_iload dL_isBest_202 rfl ?_
                      refine x_ialdx (o := 47) (n := nn) (x := way D i) dL_isBest_204 rfl hs47 (by omega) (by omega) ((congrFun (hF1039.at (by omega) (by omega)) _).trans ((congrFun (hF188.at (by omega) (by omega)) _).trans ((congrFun (hFJ1.at (by omega) (by omega)) _).trans (hW50 _ (by omega) (by omega))))) ?_
                      have hr1040 := way_b D i
                      refine x_icmp_ne (tgt := 221) dL_isBest_205 rfl (R32.in (by omega)) (R32.in (by omega)) (fun c205 => ?_) (fun c205 => ?_)
                      · skip
                        omega
                      · skip
                        refine x_aload_n dL_isBest_208 rfl rfl (by first | decide | omega) ?_
                        refine x_iload dL_isBest_209 rfl ?_
                        refine x_callVP (o := 0) (ci := 7) (as := [(0, i)]) (rest := []) (k := 0) (Gs := GG X) fL_isBest_211.g ⟨Nat.le_of_ble_eq_true rfl, Nat.le_of_ble_eq_true rfl⟩ ⟨show cc ≤ 30000 by omega, show 4 * (cc) + 64 ≤ 130000 by omega⟩ xK_A hX49 (wf_gd Xt.rf ARR_GG (hD_1039)) rfl rfl rfl rfl rfl rfl rfl rfl (Nat.le_of_ble_eq_true rfl) ⟨nt_no (by decide), trivial⟩ (by decide) (q_position X p D nn i μ_1039 hD_1039 (by first | omega | assumption)) ?_
                        refine x_aload_n dL_isBest_214 rfl rfl (by first | decide | omega) ?_
                        refine x_iload dL_isBest_215 rfl ?_
                        refine x_ialdx (o := 45) (n := nn) (x := dH D i) dL_isBest_217 rfl hs45 (by omega) (by omega) ((congrFun (hF1039.at (by omega) (by omega)) _).trans ((congrFun (hF188.at (by omega) (by omega)) _).trans ((congrFun (hFJ1.at (by omega) (by omega)) _).trans ((congrFun (hF50.at (by omega) (by omega)) _).trans (hLD.p (by omega)))))) ?_
                        have hr1041 := (hLD.ok).hr (i := i) (by omega)
                        have hr1042 := (hH.ok).hr (i := i) (by omega)
                        refine x_icmp_eq (tgt := 223) dL_isBest_218 rfl (R32.in (by omega)) (R32.in (by omega)) (fun c218 => ?_) (fun c218 => ?_)
                        · skip
                          refine x_iinc (ls' := [(2, 0), (3, 13), (2, 45), (0, dN D), (2, 46), (2, 47), (0, bl), (0, br), (0, al), (2, 48), (0, i + 1), (9, 0), (9, 0), (9, 0), (9, 0), (9, 0), (9, 0), (9, 0)]) dL_isBest_223 rfl (Nat.le_of_ble_eq_true rfl) rfl rfl ?_
                          refine x_goto (tgt := 188) dL_isBest_226 rfl ?_
                          exact ih188 (dN D - (i + 1)).toNat (by omega) (i + 1) μ_1039 rfl ((hF1039.wd (by omega) (by omega)).tr hF188) (by first | omega | assumption)
                        · skip
                          omega
                exact hL188 _ 0 μa rfl Fr.rf (by first | omega | assumption)
              · skip
                refine x_bipush dL_isBest_78 (by decide) ?_
                refine x_iload dL_isBest_80 rfl ?_
                refine x_bipush dL_isBest_82 (by decide) ?_
                refine x_isub dL_isBest_84 ?_
                refine x_max fL_isBest_85 (R32.in (by decide)) (R32.in (by omega)) (Nat.le_of_ble_eq_true rfl) ⟨Nat.le_of_ble_eq_true rfl, Nat.le_of_ble_eq_true rfl, show cc ≤ 30000 by omega, show 4 * (cc) + 64 ≤ 130000 by omega⟩ ?_
                refine x_istore (ls' := [(2, 0), (3, 13), (2, 45), (0, dN D), (2, 46), (2, 47), (0, bl), (0, br), (0, al), (2, 48), (0, l), (0, max (-60) (l - 8)), (9, 0), (9, 0), (9, 0), (9, 0), (9, 0), (9, 0)]) dL_isBest_88 (Nat.le_of_ble_eq_true rfl) rfl rfl ?_
                exact (ihJ1 _ (by omega)).2.2.2 l (max (-60) (l - 8)) al bl br cc qb μa rfl hFJ1 (by omega) (by omega) (by first | exact fnY_beg hY (by omega) | exact fnY_n hY (by omega) (by omega) (fun q9 => hna115 ((alwB_iff (by omega)).mp q9.2)) | exact fnY_y (fn_1 hN) (by omega) (by omega) (by omega) ((alwB_iff (by omega)).mpr hal115) | exact fnY_y (fn_b hY c155) (by omega) (by omega) (by omega) ((alwB_iff (by omega)).mpr hal115) | exact fnY_y (fn_n hY c155) (by omega) (by omega) (by omega) ((alwB_iff (by omega)).mpr hal115)) hJb (by omega)
            · intro l r al bl br cc qb μa hnJ1 hFJ1 hl hr hY hJb hcc
              have hlen49 : (gS (ax (ax (ax G (20, nn) q46) (20, nn) q47) (23, 4) qb)).length = 49 := (by rw [ax_len, hlen48])
              have hX49 : Xt (GG X) (ax (ax (ax G (20, nn) q46) (20, nn) q47) (23, 4) qb) := hX48.tr (Xt.ax (ax (ax G (20, nn) q46) (20, nn) q47) (23, 4) qb)
              have hA49 : ARR (ax (ax (ax G (20, nn) q46) (20, nn) q47) (23, 4) qb) := hA48.ax (Nat.le_of_ble_eq_true rfl)
              have hs45 := (Xt.ax (ax (ax G (20, nn) q46) (20, nn) q47) (23, 4) qb).sh hs45
              have hs46 := (Xt.ax (ax (ax G (20, nn) q46) (20, nn) q47) (23, 4) qb).sh hs46
              have hs47 := (Xt.ax (ax (ax G (20, nn) q46) (20, nn) q47) (23, 4) qb).sh hs47
              have hs48 : (gS (ax (ax (ax G (20, nn) q46) (20, nn) q47) (23, 4) qb))[48]? = some (23, 4) := (by have h9 := @ax_sh (ax (ax G (20, nn) q46) (20, nn) q47) (23, 4) qb; rw [hlen48] at h9; exact h9)
              have hB := sN_mem hok (by omega) (by omega) hY.2.1
              have hB2 : (-60 ≤ bl ∧ bl ≤ 60) ∧ (-60 ≤ br ∧ br ≤ 60) ∧ (-8 ≤ br - bl ∧ br - bl ≤ 8) := (by have h9 := hB.1; unfold inS inL at h9; simp only at h9; omega)
              have hB3 : alw D (br - bl) bl := hB.2
              refine x_iload dL_isBest_90 rfl ?_
              refine x_bipush dL_isBest_92 (by decide) ?_
              refine x_iload dL_isBest_94 rfl ?_
              refine x_bipush dL_isBest_96 (by decide) ?_
              refine x_iadd dL_isBest_98 ?_
              refine x_min fL_isBest_99 (R32.in (by decide)) (R32.in (by omega)) (Nat.le_of_ble_eq_true rfl) ⟨Nat.le_of_ble_eq_true rfl, Nat.le_of_ble_eq_true rfl, show cc ≤ 30000 by omega, show 4 * (cc) + 64 ≤ 130000 by omega⟩ ?_
              refine x_icmp_gt (tgt := 179) dL_isBest_102 rfl (R32.in (by omega)) (R32.in (by omega)) (fun c102 => ?_) (fun c102 => ?_)
              · skip
                refine x_iinc (ls' := [(2, 0), (3, 13), (2, 45), (0, dN D), (2, 46), (2, 47), (0, bl), (0, br), (0, al), (2, 48), (0, l + 1), (0, r), (9, 0), (9, 0), (9, 0), (9, 0), (9, 0), (9, 0)]) dL_isBest_179 rfl (Nat.le_of_ble_eq_true rfl) rfl rfl ?_
                refine x_goto (tgt := 71) dL_isBest_182 rfl ?_
                refine Gx.fgl (ls' := [(2, 0), (3, 13), (2, 45), (0, dN D), (2, 46), (2, 47), (0, bl), (0, br), (0, al), (2, 48), (0, l + 1), (9, 0), (9, 0), (9, 0), (9, 0), (9, 0), (9, 0), (9, 0)]) 11 rfl ?_
                exact (ihJ1 _ (by omega)).2.2.1 (l + 1) al bl br cc qb μa rfl hFJ1 (by omega) (fnY_row hY (by omega) (by omega) (by intro x h1 h2; omega)) hJb (by omega)
              · skip
                refine x_aload_nS dL_isBest_105 rfl rfl ?_
                refine x_aload_n dL_isBest_106 rfl rfl (by first | decide | omega) ?_
                refine x_aload dL_isBest_107 rfl (by first | decide | omega) ?_
                refine x_aload dL_isBest_109 rfl (by first | decide | omega) ?_
                refine x_iload dL_isBest_111 rfl ?_
                refine x_iload dL_isBest_113 rfl ?_
                refine x_callSX (as := [(3, 13), (2, 45), (2, 47), (2, 46), (0, l), (0, r)]) (rest := []) (k := 19) (mc := 1) (ms := 4) (P := (judP D l r 49 (ax (ax (ax G (20, nn) q46) (20, nn) q47) (23, 4) qb) μa)) fL_isBest_115.g ⟨Nat.le_of_ble_eq_true rfl, Nat.le_of_ble_eq_true rfl⟩ ⟨show cc + 1 ≤ 30000 by omega, show 4 * (cc) + 64 + 4 ≤ 130000 by omega⟩ xK_A (wf_gd hX49 hA49 ((GD.cg hD (fun o h1 => ((hFJ1.at (by omega) (by omega)).trans ((hF50.at (by omega) (by omega)).trans (hF11.at (by omega) (by omega)))))))) rfl rfl rfl rfl rfl (Nat.le_of_ble_eq_true rfl) (by rw [hlen49]; exact ⟨fun _ => (by omega), ⟨nt_no (by decide), ⟨fun _ => (by omega), ⟨nt_no (by decide), ⟨fun _ => (by omega), ⟨fun _ => (by omega), ⟨nt_no (by decide), ⟨nt_no (by decide), ⟨nt_no (by decide), ⟨fun _ => (by omega), ⟨nt_no (by decide), ⟨nt_no (by decide), ⟨nt_no (by decide), ⟨nt_no (by decide), ⟨nt_no (by decide), ⟨nt_no (by decide), ⟨nt_no (by decide), ⟨nt_no (by decide), trivial⟩⟩⟩⟩⟩⟩⟩⟩⟩⟩⟩⟩⟩⟩⟩⟩⟩⟩) (by rw [hlen49]; exact trivial) (s_L_judged (ax (ax (ax G (20, nn) q46) (20, nn) q47) (23, 4) qb) D nn 49 l r μa hlen49 (by decide) hs45 hs46 hs47 (wf_gd hX49 hA49 ((GD.cg hD (fun o h1 => ((hFJ1.at (by omega) (by omega)).trans ((hF50.at (by omega) (by omega)).trans (hF11.at (by omega) (by omega)))))))) (LD.cg hLD (fun o h1 => ((hFJ1.at (by omega) (by omega)).trans (hF50.at (by omega) (by omega))))) (LW.cg hW50 (fun o h1 => (hFJ1.at (by omega) (by omega)))) (by omega)) (fun G115 r115 μ115 hp115 hx115 => ?_)
                rcases hp115 with ⟨hna115, rfl, rfl, hm115⟩ | ⟨hal115, q115, rfl, rfl, hv115, ho115⟩
                · skip
                  have hm9115 := hm115.symm
                  rw [hm115]
                  refine Gx.cg (ls' := [(2, 0), (3, 13), (2, 45), (0, dN D), (2, 46), (2, 47), (0, bl), (0, br), (0, al), (2, 48), (0, l), (0, r), (9, 0), (9, 0), (9, 0), (9, 0), (9, 0), (9, 0)]) (st' := [(2, -1)]) (μ' := μa) ?_ rfl rfl rfl
                  refine Gx.widen (cs2 := cc + 1) (ss2 := 4 * (cc + 1) + 64) (by omega) (by omega) ?_
                  refine x_astoreN (ls' := [(2, 0), (3, 13), (2, 45), (0, dN D), (2, 46), (2, 47), (0, bl), (0, br), (0, al), (2, 48), (0, l), (0, r), (2, -1), (9, 0), (9, 0), (9, 0), (9, 0), (9, 0)]) dL_isBest_118 (Nat.le_of_ble_eq_true rfl) rfl rfl ?_
                  refine x_aloadN dL_isBest_120 rfl ?_
                  refine x_ifnonnull_n dL_isBest_122 ?_
                  refine x_goto (tgt := 173) dL_isBest_125 rfl ?_
                  refine x_iinc (ls' := [(2, 0), (3, 13), (2, 45), (0, dN D), (2, 46), (2, 47), (0, bl), (0, br), (0, al), (2, 48), (0, l), (0, r + 1), (2, -1), (9, 0), (9, 0), (9, 0), (9, 0), (9, 0)]) dL_isBest_173 rfl (Nat.le_of_ble_eq_true rfl) rfl rfl ?_
                  refine x_goto (tgt := 90) dL_isBest_176 rfl ?_
                  refine Gx.fgl (ls' := [(2, 0), (3, 13), (2, 45), (0, dN D), (2, 46), (2, 47), (0, bl), (0, br), (0, al), (2, 48), (0, l), (0, r + 1), (9, 0), (9, 0), (9, 0), (9, 0), (9, 0), (9, 0)]) 12 rfl ?_
                  exact (ihJ1 _ (by omega)).2.2.2 l (r + 1) al bl br (cc + 1) qb μa rfl hFJ1 (by omega) (by omega) (by first | exact fnY_beg hY (by omega) | exact fnY_n hY (by omega) (by omega) (fun q9 => hna115 ((alwB_iff (by omega)).mp q9.2)) | exact fnY_y (fn_1 hN) (by omega) (by omega) (by omega) ((alwB_iff (by omega)).mpr hal115) | exact fnY_y (fn_b hY c155) (by omega) (by omega) (by omega) ((alwB_iff (by omega)).mpr hal115) | exact fnY_y (fn_n hY c155) (by omega) (by omega) (by omega) ((alwB_iff (by omega)).mpr hal115)) hJb (by omega)
                · skip
                  refine Gx.cg (ls' := [(2, 0), (3, 13), (2, 45), (0, dN D), (2, 46), (2, 47), (0, bl), (0, br), (0, al), (2, 48), (0, l), (0, r), (9, 0), (9, 0), (9, 0), (9, 0), (9, 0), (9, 0)]) (st' := [(2, 49)]) (μ' := μ115) ?_ rfl rfl rfl
                  refine Gx.widen (cs2 := cc + 1) (ss2 := 4 * (cc + 1) + 64) (by omega) (by omega) ?_
                  have hF115 : Fr 49 49 1 0 μ115 μa := (fun o h1 h2 => ho115 o (by omega))
                  have hJ115 : rowJ μ115 49 D l r := hv115
                  have hlen50 : (gS (ax (ax (ax (ax G (20, nn) q46) (20, nn) q47) (23, 4) qb) (23, 4) q115)).length = 50 := (by rw [ax_len, hlen49])
                  have hX50 : Xt (GG X) (ax (ax (ax (ax G (20, nn) q46) (20, nn) q47) (23, 4) qb) (23, 4) q115) := hX49.tr (Xt.ax (ax (ax (ax G (20, nn) q46) (20, nn) q47) (23, 4) qb) (23, 4) q115)
                  have hA50 : ARR (ax (ax (ax (ax G (20, nn) q46) (20, nn) q47) (23, 4) qb) (23, 4) q115) := hA49.ax (Nat.le_of_ble_eq_true rfl)
                  have hs45 := (Xt.ax (ax (ax (ax G (20, nn) q46) (20, nn) q47) (23, 4) qb) (23, 4) q115).sh hs45
                  have hs46 := (Xt.ax (ax (ax (ax G (20, nn) q46) (20, nn) q47) (23, 4) qb) (23, 4) q115).sh hs46
                  have hs47 := (Xt.ax (ax (ax (ax G (20, nn) q46) (20, nn) q47) (23, 4) qb) (23, 4) q115).sh hs47
                  have hs48 := (Xt.ax (ax (ax (ax G (20, nn) q46) (20, nn) q47) (23, 4) qb) (23, 4) q115).sh hs48
                  have hs49 : (gS (ax (ax (ax (ax G (20, nn) q46) (20, nn) q47) (23, 4) qb) (23, 4) q115))[49]? = some (23, 4) := (by have h9 := @ax_sh (ax (ax (ax G (20, nn) q46) (20, nn) q47) (23, 4) qb) (23, 4) q115; rw [hlen49] at h9; exact h9)
                  refine x_astore (ls' := [(2, 0), (3, 13), (2, 45), (0, dN D), (2, 46), (2, 47), (0, bl), (0, br), (0, al), (2, 48), (0, l), (0, r), (2, 49), (9, 0), (9, 0), (9, 0), (9, 0), (9, 0)]) dL_isBest_118 (Nat.le_of_ble_eq_true rfl) rfl (by first | decide | omega) rfl ?_
                  refine x_aload dL_isBest_120 rfl (by first | decide | omega) ?_
                  refine x_ifnonnull_r (tgt := 128) dL_isBest_122 rfl (by omega) ?_
                  refine x_iinc (ls' := [(2, 0), (3, 13), (2, 45), (0, dN D), (2, 46), (2, 47), (0, bl), (0, br), (0, al + 1), (2, 48), (0, l), (0, r), (2, 49), (9, 0), (9, 0), (9, 0), (9, 0), (9, 0)]) dL_isBest_128 rfl (Nat.le_of_ble_eq_true rfl) rfl rfl ?_
                  refine x_aload dL_isBest_131 rfl (by first | decide | omega) ?_
                  refine x_ifnull_r dL_isBest_133 (by omega) ?_
                  refine x_aload dL_isBest_136 rfl (by first | decide | omega) ?_
                  refine x_iload dL_isBest_138 rfl ?_
                  refine x_iload dL_isBest_140 rfl ?_
                  refine x_aload dL_isBest_142 rfl (by first | decide | omega) ?_
                  refine x_iload dL_isBest_144 rfl ?_
                  refine x_iload dL_isBest_146 rfl ?_
                  refine x_aload dL_isBest_148 rfl (by first | decide | omega) ?_
                  refine x_iconst dL_isBest_150 ?_
                  refine x_ialdx (o := 47) (n := nn) (x := way D 0) dL_isBest_151 rfl hs47 (by omega) (by omega) ((congrFun (hF115.at (by omega) (by omega)) _).trans ((congrFun (hFJ1.at (by omega) (by omega)) _).trans (hW50 _ (by omega) (by omega)))) ?_
                  have hr1043 := way_b D 0
                  refine x_callSP (as := [(2, 49), (0, l), (0, r), (2, 48), (0, bl), (0, br), (0, way D 0)]) (rest := []) (k := 4) fL_isBest_152.g ⟨Nat.le_of_ble_eq_true rfl, Nat.le_of_ble_eq_true rfl⟩ ⟨show cc + 1 ≤ 30000 by omega, show 4 * (cc + 1) + 64 ≤ 130000 by omega⟩ xK_A (wf_gd hX50 hA50 ((GD.cg hD (fun o h1 => ((hF115.at (by omega) (by omega)).trans ((hFJ1.at (by omega) (by omega)).trans ((hF50.at (by omega) (by omega)).trans (hF11.at (by omega) (by omega))))))))) rfl rfl rfl rfl rfl (Nat.le_of_ble_eq_true rfl) ⟨fun _ => (by omega), ⟨nt_no (by decide), ⟨nt_no (by decide), ⟨fun _ => (by omega), ⟨nt_no (by decide), ⟨nt_no (by decide), ⟨nt_no (by decide), trivial⟩⟩⟩⟩⟩⟩⟩ (by decide) (show Wp (ax (ax (ax (ax G (20, nn) q46) (20, nn) q47) (23, 4) qb) (23, 4) q115) M_L_isAhead 0 [(2, 49), (0, l), (0, r), (2, 48), (0, bl), (0, br), (0, way D 0), (9, 0), (9, 0), (9, 0), (9, 0)] [] μ115 (pP 0 (am_b (keyq D (l, r) < keyq D (bl, br))) μ115) from (s_L_isAheadJ49 (ax (ax (ax (ax G (20, nn) q46) (20, nn) q47) (23, 4) qb) (23, 4) q115) D l r bl br μ115 hok hs49 hs48 hJ115 (rowJ.cg hJb (fun o h1 => (hF115.at (by omega) (by omega)))) hal115 hB3 (by omega) (by omega))) ?_
                  have hf1044 := am_b_r (keyq D (l, r) < keyq D (bl, br))
                  refine x_if_ne (tgt := 161) dL_isBest_155 rfl (R32.in (by have := am_b_r ((keyq D (l, r) < keyq D (bl, br))); omega)) (fun c155 => ?_) (fun c155 => ?_)
                  · skip
                    replace c155 := am_b1 c155
                    refine x_aload dL_isBest_161 rfl (by first | decide | omega) ?_
                    refine x_astore (ls' := [(2, 0), (3, 13), (2, 45), (0, dN D), (2, 46), (2, 47), (0, bl), (0, br), (0, al + 1), (2, 49), (0, l), (0, r), (2, 49), (9, 0), (9, 0), (9, 0), (9, 0), (9, 0)]) dL_isBest_163 (Nat.le_of_ble_eq_true rfl) rfl (by first | decide | omega) rfl ?_
                    refine x_iload dL_isBest_165 rfl ?_
                    refine x_istore (ls' := [(2, 0), (3, 13), (2, 45), (0, dN D), (2, 46), (2, 47), (0, l), (0, br), (0, al + 1), (2, 49), (0, l), (0, r), (2, 49), (9, 0), (9, 0), (9, 0), (9, 0), (9, 0)]) dL_isBest_167 (Nat.le_of_ble_eq_true rfl) rfl rfl ?_
                    refine x_iload dL_isBest_169 rfl ?_
                    refine x_istore (ls' := [(2, 0), (3, 13), (2, 45), (0, dN D), (2, 46), (2, 47), (0, l), (0, r), (0, al + 1), (2, 49), (0, l), (0, r), (2, 49), (9, 0), (9, 0), (9, 0), (9, 0), (9, 0)]) dL_isBest_171 (Nat.le_of_ble_eq_true rfl) rfl rfl ?_
                    refine x_iinc (ls' := [(2, 0), (3, 13), (2, 45), (0, dN D), (2, 46), (2, 47), (0, l), (0, r), (0, al + 1), (2, 49), (0, l), (0, r + 1), (2, 49), (9, 0), (9, 0), (9, 0), (9, 0), (9, 0)]) dL_isBest_173 rfl (Nat.le_of_ble_eq_true rfl) rfl rfl ?_
                    refine x_goto (tgt := 90) dL_isBest_176 rfl ?_
                    refine Gx.fgl (ls' := [(2, 0), (3, 13), (2, 45), (0, dN D), (2, 46), (2, 47), (0, l), (0, r), (0, al + 1), (2, 49), (0, l), (0, r + 1), (9, 0), (9, 0), (9, 0), (9, 0), (9, 0), (9, 0)]) 12 rfl ?_
                    refine Gx.take (B := (ax (ax G (20, nn) q46) (20, nn) q47)) (x := (23, 4)) (q1 := qb) (q2 := q115) (n := 48) (ls2 := [(2, 0), (3, 13), (2, 45), (0, dN D), (2, 46), (2, 47), (0, l), (0, r), (0, al + 1), (2, 48), (0, l), (0, r + 1), (9, 0), (9, 0), (9, 0), (9, 0), (9, 0), (9, 0)]) (wf_gd hX48 hA48 ((GD.cg hD (fun o h1 => ((hF115.at (by omega) (by omega)).trans ((hFJ1.at (by omega) (by omega)).trans ((hF50.at (by omega) (by omega)).trans (hF11.at (by omega) (by omega))))))))) hlen48 (by decide) ⟨fun _ => ⟨by decide, take_c1 hlen48 (fun _ => by decide)⟩, ⟨fun _ => ⟨by simp, rfl⟩, ⟨fun _ => ⟨by decide, take_c1 hlen48 (fun _ => by decide)⟩, ⟨fun _ => ⟨by simp, rfl⟩, ⟨fun _ => ⟨by decide, take_c1 hlen48 (fun _ => by decide)⟩, ⟨fun _ => ⟨by decide, take_c1 hlen48 (fun _ => by decide)⟩, ⟨fun _ => ⟨by simp, rfl⟩, ⟨fun _ => ⟨by simp, rfl⟩, ⟨fun _ => ⟨by simp, rfl⟩, ⟨fun _ => ⟨by decide, take_c2 hlen48 rfl rfl⟩, ⟨fun _ => ⟨by simp, rfl⟩, ⟨fun _ => ⟨by simp, rfl⟩, ⟨fun h => absurd h (by decide), ⟨fun h => absurd h (by decide), ⟨fun h => absurd h (by decide), ⟨fun h => absurd h (by decide), ⟨fun h => absurd h (by decide), ⟨fun h => absurd h (by decide), trivial⟩⟩⟩⟩⟩⟩⟩⟩⟩⟩⟩⟩⟩⟩⟩⟩⟩⟩ ?_
                    refine Gx.mu (fun μt hμt => ?_)
                    have hFt : Fr 48 48 1 0 μt μ115 := (by rw [hμt]; exact fun o h1 h2 => am_mv_o (by omega))
                    have hJt : rowJ μt 48 D l r := (by have h9 : μt 48 = μ115 49 := (by rw [hμt]; exact am_mv_at); unfold rowJ; rw [h9]; exact hJ115)
                    clear hμt
                    exact (ihJ1 _ (by omega)).2.2.2 l (r + 1) (al + 1) l r (cc + 1) q115 μt rfl ((hFt.wd (by omega) (by omega)).tr ((hF115.wd (by omega) (by omega)).tr hFJ1)) (by omega) (by omega) (by first | exact fnY_beg hY (by omega) | exact fnY_n hY (by omega) (by omega) (fun q9 => hna115 ((alwB_iff (by omega)).mp q9.2)) | exact fnY_y (fn_1 hN) (by omega) (by omega) (by omega) ((alwB_iff (by omega)).mpr hal115) | exact fnY_y (fn_b hY c155) (by omega) (by omega) (by omega) ((alwB_iff (by omega)).mpr hal115) | exact fnY_y (fn_n hY c155) (by omega) (by omega) (by omega) ((alwB_iff (by omega)).mpr hal115)) hJt (by omega)
                  · skip
                    replace c155 := am_b0 c155
                    refine x_goto (tgt := 173) dL_isBest_158 rfl ?_
                    refine x_iinc (ls' := [(2, 0), (3, 13), (2, 45), (0, dN D), (2, 46), (2, 47), (0, bl), (0, br), (0, al + 1), (2, 48), (0, l), (0, r + 1), (2, 49), (9, 0), (9, 0), (9, 0), (9, 0), (9, 0)]) dL_isBest_173 rfl (Nat.le_of_ble_eq_true rfl) rfl rfl ?_
                    refine x_goto (tgt := 90) dL_isBest_176 rfl ?_
                    refine Gx.fgl (ls' := [(2, 0), (3, 13), (2, 45), (0, dN D), (2, 46), (2, 47), (0, bl), (0, br), (0, al + 1), (2, 48), (0, l), (0, r + 1), (9, 0), (9, 0), (9, 0), (9, 0), (9, 0), (9, 0)]) 12 rfl ?_
                    refine Gx.drop (wf_gd hX49 hA49 ((GD.cg hD (fun o h1 => ((hF115.at (by omega) (by omega)).trans ((hFJ1.at (by omega) (by omega)).trans ((hF50.at (by omega) (by omega)).trans (hF11.at (by omega) (by omega))))))))) (by rw [hlen49]; exact ⟨fun _ => (by omega), ⟨nt_no (by decide), ⟨fun _ => (by omega), ⟨nt_no (by decide), ⟨fun _ => (by omega), ⟨fun _ => (by omega), ⟨nt_no (by decide), ⟨nt_no (by decide), ⟨nt_no (by decide), ⟨fun _ => (by omega), ⟨nt_no (by decide), ⟨nt_no (by decide), ⟨nt_no (by decide), ⟨nt_no (by decide), ⟨nt_no (by decide), ⟨nt_no (by decide), ⟨nt_no (by decide), ⟨nt_no (by decide), trivial⟩⟩⟩⟩⟩⟩⟩⟩⟩⟩⟩⟩⟩⟩⟩⟩⟩⟩) (by rw [hlen49]; exact trivial) ?_
                    exact (ihJ1 _ (by omega)).2.2.2 l (r + 1) (al + 1) bl br (cc + 1) qb μ115 rfl ((hF115.wd (by omega) (by omega)).tr hFJ1) (by omega) (by omega) (by first | exact fnY_beg hY (by omega) | exact fnY_n hY (by omega) (by omega) (fun q9 => hna115 ((alwB_iff (by omega)).mp q9.2)) | exact fnY_y (fn_1 hN) (by omega) (by omega) (by omega) ((alwB_iff (by omega)).mpr hal115) | exact fnY_y (fn_b hY c155) (by omega) (by omega) (by omega) ((alwB_iff (by omega)).mpr hal115) | exact fnY_y (fn_n hY c155) (by omega) (by omega) (by omega) ((alwB_iff (by omega)).mpr hal115)) (rowJ.cg hJb (fun o h1 => (hF115.at (by omega) (by omega)))) (by omega)
        exact (hJ1 _).1 (-60) 0 4 μ50 rfl Fr.rf (by omega) ⟨sN_0, rfl⟩ (by omega)
      · skip
        refine x_aload dL_isBest_17 rfl (by first | decide | omega) ?_
        refine x_iload dL_isBest_19 rfl ?_
        refine x_aload dL_isBest_21 rfl (by first | decide | omega) ?_
        refine x_iload dL_isBest_23 rfl ?_
        refine x_iconst dL_isBest_25 ?_
        refine x_isub dL_isBest_26 ?_
        refine x_ialdx (o := 46) (n := nn) (x := dX D (i - 1)) dL_isBest_27 rfl hs46 (by omega) (by omega) (hx _ (by omega) (by omega)) ?_
        have hr1045 := hok.xs (i := (i - 1)) (by omega)
        refine x_aload_nS dL_isBest_28 rfl rfl ?_
        refine x_aload_nS dL_isBest_29 rfl rfl ?_
        refine x_iload dL_isBest_30 rfl ?_
        refine x_iconst dL_isBest_32 ?_
        refine x_isub dL_isBest_33 ?_
        refine x_callSP (as := [(3, 13), (0, i - 1)]) (rest := [(3, 13), (0, dX D (i - 1)), (0, i), (2, 46)]) (k := 0) fL_isBest_34.g ⟨Nat.le_of_ble_eq_true rfl, Nat.le_of_ble_eq_true rfl⟩ ⟨show 1 ≤ 30000 by omega, show 4 * (1) + 64 ≤ 130000 by omega⟩ xK_A (wf_gd hX47 hA47 ((GD.cg hD (fun o h1 => (hF11.at (by omega) (by omega)))))) rfl rfl rfl rfl rfl (Nat.le_of_ble_eq_true rfl) ⟨nt_no (by decide), ⟨nt_no (by decide), trivial⟩⟩ (by decide) (show Wp (ax G (20, nn) q46) M_L_kind 0 [(3, 13), (0, i - 1)] [] μ1 (pP 0 (lkd G (i - 1)) μ1) from (s_L_kind (ax G (20, nn) q46) (i - 1) μ1 hk4 (by first | omega | assumption))) ?_
        have hf1046 := lkd_r G (i - 1)
        refine x_callSP (as := [(3, 13), (0, lkd G (i - 1))]) (rest := [(0, dX D (i - 1)), (0, i), (2, 46)]) (k := 0) fL_isBest_37.g ⟨Nat.le_of_ble_eq_true rfl, Nat.le_of_ble_eq_true rfl⟩ ⟨show 1 ≤ 30000 by omega, show 4 * (1) + 64 ≤ 130000 by omega⟩ xK_A (wf_gd hX47 hA47 ((GD.cg hD (fun o h1 => (hF11.at (by omega) (by omega)))))) rfl rfl rfl rfl rfl (Nat.le_of_ble_eq_true rfl) ⟨nt_no (by decide), ⟨nt_no (by decide), trivial⟩⟩ (by decide) (show Wp (ax G (20, nn) q46) M_L_wide 0 [(3, 13), (0, lkd G (i - 1))] [] μ1 (pP 0 (lwd G (lkd G (i - 1))) μ1) from (s_L_wide (ax G (20, nn) q46) (lkd G (i - 1)) μ1 hk4 (by first | omega | assumption))) ?_
        have hf1047 := lwd_r G (lkd G (i - 1))
        refine x_iadd dL_isBest_40 ?_
        refine x_iast (o := 46) (n := nn) dL_isBest_41 rfl hs46 (by omega) (by omega) (by omega) ?_
        refine x_iinc (ls' := [(2, 0), (3, 13), (2, 45), (0, dN D), (2, 46), (0, i + 1), (9, 0), (9, 0), (9, 0), (9, 0), (9, 0), (9, 0), (9, 0), (9, 0), (9, 0), (9, 0), (9, 0), (9, 0)]) dL_isBest_42 rfl (Nat.le_of_ble_eq_true rfl) rfl rfl ?_
        refine x_goto (tgt := 11) dL_isBest_45 rfl ?_
        exact ih11 (dN D - (i + 1)).toNat (by omega) (i + 1) (am_up μ1 46 i ((dX D (i - 1)) + (lwd G (lkd G (i - 1))))) rfl (hF11.up (by omega)) (by first | omega | assumption) (fillr hx (by have h9 := hxx (i - 1) (by omega) (by omega); rw [show i - 1 + 1 = i by omega] at h9; omega))
  exact hL11 _ 1 μn46 rfl hFμn46 (by first | omega | assumption) (fun j h1 h2 => by rw [show j = 0 by omega, hz46, hok.2.2.1])
