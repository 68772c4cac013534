/-! ===== The law's second half: best, ranks, a note put elsewhere and back ===== -/
section lawq
variable {K : XKt} {X : AX} {G : AG} {M : AMeth} {cs ss pc : Nat} {ls st : List AV} {μ μ1 : Mu} {D : GDt} {nn : Nat} {i q z w : Int}
theorem x_icmp_eq_s {a off : Int} {tgt : Nat} (hd : decode M.2.1 pc = .ok (.if_icmp .eq off, 3)) (ht : (pc : Int) + off = (tgt : Int)) (kt : Gx K G M cs ss tgt ls st μ) : Gx K G M cs ss pc ls ((0, a) :: (0, a) :: st) μ :=
  fun p e s m args below meth c H locs lsA hI => lv_icmp_eq hI.1.1 hI.1.2.1 hd ht (fun _ => kt p e s m args below meth c H locs lsA hI) (fun h => absurd rfl h)
theorem put_gd (h : GD μ 31 D nn) (hi : 0 ≤ i ∧ i < dN D) (hq : -12 ≤ q ∧ q ≤ 12) (hh : 0 ≤ μ 3 2 ∧ μ 3 2 ≤ 20) (hP : Fr 3 5 36 36 μ1 μ ∧ putP μ 31 i q z μ1) : GD μ1 31 (hdS D i q) nn ∧ z = dH D i ∧ (μ 3 2 = 0 → μ1 3 2 = 1 ∧ μ1 4 0 = i ∧ μ1 5 0 = dH D i) := by
  obtain ⟨hF, hp⟩ := hP
  have hn := h.n
  have hnt := h.nt hi
  have hd := h.hd hi
  rcases hp with ⟨-, h1, h2, h3, h4, h5⟩ | ⟨h1, -⟩
  · refine ⟨h.put hi hq (fun o ho => hF.at (by omega) (by omega)) h5, h1.trans hd.symm, fun h0 => ?_⟩
    rw [h0] at h2 h3 h4
    have a := h3 0 (by decide) (by decide)
    have b := h4 0 (by decide) (by decide)
    unfold hsN at a b
    rw [if_neg (by decide), if_pos rfl] at a b
    exact ⟨h2, a, b.trans hd.symm⟩
  · exact absurd ⟨⟨hi.1, by rw [h.sz]; omega, hnt.2⟩, hq⟩ h1
theorem undo_gd (h : GD μ 31 D nn) (h32 : μ 3 2 = 1) (h4 : μ 4 0 = i) (h5 : μ 5 0 = q) (hi : 0 ≤ i ∧ i < dN D) (hq : -12 ≤ q ∧ q ≤ 12) (hP : Fr 3 3 36 36 μ1 μ ∧ undP μ 31 z μ1) : z = 0 ∧ μ1 3 2 = 0 ∧ GD μ1 31 (hdS D i q) nn := by
  obtain ⟨hF, hp⟩ := hP
  rcases hp with ⟨h1, -⟩ | ⟨-, h1, h2, h3⟩
  · rw [h32] at h1; exact absurd h1 (by decide)
  · rw [h32] at h1 h2 h3
    refine ⟨h1, h2, h.put hi hq (fun o ho => hF.at (by omega) (by omega)) (fun j => ?_)⟩
    rw [h3 j]
    show (if j = μ 4 (1 - 1) then (if (0 : Int) < 1 then μ 5 (1 - 1) else 0) else μ 36 j) = _
    rw [if_pos (show (0 : Int) < 1 by decide), show (1 : Int) - 1 = 0 by decide, h4, h5]
    rfl
theorem law_B (hKA : gx_A K) (hRm : 13 ≤ K.1.frames ∧ 400 ≤ K.1.locals ∧ 200000 ≤ K.1.cells ∧ 1500000 ≤ K.1.slots) (hk4 : (gK (GG X) 14 : Int) ≤ 260) {m q : Nat} (hM : (m : Int) = lmy (GG X)) (hGD : GD μ 31 D m) (hDk : dK D = lkn (GG X) ∧ dN D = (m : Int)) (hDb : ∀ i : Int, 0 ≤ i → i < (m : Int) → dB D i = lkd (GG X) i) (hDx : ∀ i : Int, 0 ≤ i → i + 1 < (m : Int) → dX D (i + 1) = dX D i + lwd (GG X) (lkd (GG X) i)) (h32 : μ 3 2 = 0) (h45 : ∀ j : Int, 0 ≤ j → j < (m : Int) → μ 45 j = dH D j) {cs ss : Nat} (hcs : cs ≤ 6000 ∧ ss ≤ 1000000)
    (KK : ∀ (G' : AG) (c s : Nat) (μ' : Mu), c ≤ 200000 → s ≤ 1500000 → Gx K G' M_L_law c s 291 [(9, 0), (9, 0), (9, 0), (9, 0), (9, 0), (9, 0), (9, 0), (9, 0)] [(0, 1)] μ') :
    Gx K (ax (GG X) (20, m) q) M_L_law cs ss 128 [(3, 13), (2, 0), (9, 0), (0, (m : Int)), (2, 45), (9, 0), (9, 0), (9, 0)] [] μ := by
  have hmy := lmy_r (GG X)
  have hok := hGD.ok
  have hn := hDk.2
  generalize hW : ax (GG X) (20, m) q = W
  have hlen46 : (gS W).length = 46 := by rw [← hW]; exact ax_len
  have hX46 : Xt (GG X) W := by rw [← hW]; exact Xt.ax (GG X) (20, m) q
  have hA46 : ARR W := by rw [← hW]; exact (ARR_GG (X := X)).ax (Nat.le_of_ble_eq_true rfl)
  have hs45 : (gS W)[45]? = some (20, m) := by rw [← hW]; exact ax_sh (G := GG X)
  have hk4W : (gK W 14 : Int) ≤ 260 := gk_x hX46 hk4
  have hL0 : (0 : Int) < ((gS W).length : Int) := by omega
  have hL1 : (45 : Int) < ((gS W).length : Int) := by omega
  have hbx : ∀ E : GDt, dB E = dB D → dN E = dN D → ∀ i : Int, 0 ≤ i → i < dN E → lkd W i = dB E i := fun E e1 e2 i i0 i1 => by rw [e1, hDb i i0 (by omega), lkd_x hX46]
  have hxx : ∀ E : GDt, dX E = dX D → dN E = dN D → ∀ i : Int, 0 ≤ i → i + 1 < dN E → dX E (i + 1) = dX E i + lwd W (lkd W i) := fun E e1 e2 i i0 i1 => by rw [e1, hDx i i0 (by omega), lkd_x hX46, lwd_x hX46]
  have hLH : ∀ (E : GDt) (ν : Mu), GD ν 31 E m → dN E = dN D → dK E = dK D → (∀ j : Int, 0 ≤ j → j < (m : Int) → ν 45 j = dH E j) → LH W E m ν := fun E ν h e1 e2 h9 => ⟨h.ok, ⟨h.n, by omega⟩, ⟨by rw [e2, hDk.1, lkn_x hX46], hk4W⟩, fun j j0 j1 => h9 j j0 (by omega)⟩
  refine x_aload_n dL_law_128 rfl rfl (by decide) ?_
  refine x_aload_nS dL_law_129 rfl rfl ?_
  refine x_aload dL_law_130 rfl (by decide) ?_
  refine x_callSX (as := [(2, 0), (3, 13), (2, 45)]) (rest := []) (k := 15) (mc := 30000) (ms := 130000) (P := ibP W μ) fL_law_132.g ⟨Nat.le_trans (Nat.le_of_ble_eq_true rfl) hRm.1, Nat.le_trans (Nat.le_of_ble_eq_true rfl) hRm.2.1⟩ ⟨by omega, by omega⟩ hKA (wf_gd hX46 hA46 hGD) rfl rfl rfl rfl rfl (Nat.le_of_ble_eq_true rfl) ⟨nt_no (by decide), fun _ => hL0, nt_no (by decide), nt_no (by decide), fun _ => hL1, nt_no (by decide), nt_no (by decide), nt_no (by decide), trivial⟩ trivial (s_L_isBest W X 31 D m μ hlen46 hX46 hA46 hs45 hGD (hLH D μ hGD rfl rfl h45) (hbx D rfl rfl) (hxx D rfl rfl)) (fun G9 r9 μa hp9 hx9 => ?_)
  obtain ⟨hg9, rfl, hIμa⟩ := hp9
  have hg8 := hg9.symm
  subst hg8
  refine x_if_ne (tgt := 140) dL_law_135 rfl (R32.in (by decide)) (fun _ => ?_) (fun q => absurd q (by decide))
  have hGa : GD μa 31 D m := hGD.cg (fun o h => hIμa o (by omega) (by omega))
  have h3a : μa 3 2 = 0 := by rw [hIμa 3 (by decide) (by decide)]; exact h32
  have h45a : ∀ j : Int, 0 ≤ j → j < (m : Int) → μa 45 j = dH D j := fun j j0 j1 => by rw [hIμa 45 (by decide) (by decide)]; exact h45 j j0 j1
  refine x_aload_nS dL_law_140 rfl rfl ?_
  refine x_bipush dL_law_141 (by decide) ?_
  refine x_callSP (as := [(3, 13), (0, 30)]) (rest := []) (k := 0) fL_law_143.g ⟨Nat.le_trans (Nat.le_of_ble_eq_true rfl) hRm.1, Nat.le_trans (Nat.le_of_ble_eq_true rfl) hRm.2.1⟩ ⟨by omega, by omega⟩ hKA (wf_gd hX46 hA46 hGa) rfl rfl rfl rfl rfl (Nat.le_of_ble_eq_true rfl) ⟨nt_no (by decide), nt_no (by decide), trivial⟩ (by decide) (s_L_cell W 30 μa hk4W (by decide)) ?_
  refine x_iload_n dL_law_146 rfl rfl ?_
  refine x_callSP (as := [(0, sc W 30), (0, (m : Int))]) (rest := []) (k := 0) fL_law_147.g ⟨Nat.le_trans (Nat.le_of_ble_eq_true rfl) hRm.1, Nat.le_trans (Nat.le_of_ble_eq_true rfl) hRm.2.1⟩ ⟨by omega, by omega⟩ hKA (wf_gd hX46 hA46 hGa) rfl rfl rfl rfl rfl (Nat.le_of_ble_eq_true rfl) ⟨nt_no (by decide), nt_no (by decide), trivial⟩ (by decide) (s_L_in W (sc W 30) (m : Int) μa (by omega)) ?_
  refine Gx.top (fun iv hiv => ?_)
  have hi : 0 ≤ iv ∧ iv < dN D := by rw [hiv, hn]; exact inn_r (by omega)
  clear hiv
  refine x_istore (ls' := [(3, 13), (2, 0), (9, 0), (0, (m : Int)), (2, 45), (0, iv), (9, 0), (9, 0)]) dL_law_150 (Nat.le_of_ble_eq_true rfl) rfl rfl ?_
  refine x_aload dL_law_152 rfl (by decide) ?_
  refine x_iload dL_law_154 rfl ?_
  refine x_ialdx (o := 45) dL_law_156 rfl hs45 (by omega) (by omega) (h45a iv hi.1 (by omega)) ?_
  refine x_istore (ls' := [(3, 13), (2, 0), (9, 0), (0, (m : Int)), (2, 45), (0, iv), (0, dH D iv), (9, 0)]) dL_law_157 (Nat.le_of_ble_eq_true rfl) rfl rfl ?_
  refine x_aload dL_law_159 rfl (by decide) ?_
  refine x_iload dL_law_161 rfl ?_
  refine x_aload_nS dL_law_163 rfl rfl ?_
  refine x_bipush dL_law_164 (by decide) ?_
  refine x_callSP (as := [(3, 13), (0, 31)]) (rest := [(0, iv), (2, 45)]) (k := 0) fL_law_166.g ⟨Nat.le_trans (Nat.le_of_ble_eq_true rfl) hRm.1, Nat.le_trans (Nat.le_of_ble_eq_true rfl) hRm.2.1⟩ ⟨by omega, by omega⟩ hKA (wf_gd hX46 hA46 hGa) rfl rfl rfl rfl rfl (Nat.le_of_ble_eq_true rfl) ⟨nt_no (by decide), nt_no (by decide), trivial⟩ (by decide) (s_L_cell W 31 μa hk4W (by decide)) ?_
  refine x_bipush dL_law_169 (by decide) ?_
  refine x_callSP (as := [(0, sc W 31), (0, 25)]) (rest := [(0, iv), (2, 45)]) (k := 0) fL_law_171.g ⟨Nat.le_trans (Nat.le_of_ble_eq_true rfl) hRm.1, Nat.le_trans (Nat.le_of_ble_eq_true rfl) hRm.2.1⟩ ⟨by omega, by omega⟩ hKA (wf_gd hX46 hA46 hGa) rfl rfl rfl rfl rfl (Nat.le_of_ble_eq_true rfl) ⟨nt_no (by decide), nt_no (by decide), trivial⟩ (by decide) (s_L_in W (sc W 31) 25 μa (by decide)) ?_
  refine x_bipush dL_law_174 (by decide) ?_
  refine x_isub dL_law_176 ?_
  refine Gx.top (fun nq hnq => ?_)
  have hq : -12 ≤ nq ∧ nq ≤ 12 := by have := inn_r (x := sc W 31) (m := 25) (by decide); omega
  clear hnq
  refine x_iast (o := 45) dL_law_177 rfl hs45 (by omega) hi.1 (by omega) ?_
  refine Gx.mu (fun μb hμb => ?_)
  have hFb : ∀ o : Int, o ≠ 45 → μb o = μa o := fun o ho => by rw [hμb, am_up_o ho]
  have h45b : ∀ j : Int, μb 45 j = if j = iv then nq else μa 45 j := fun j => by rw [hμb, am_up_k]
  clear hμb
  have hGb : GD μb 31 D m := hGa.cg (fun o h => hFb o (by omega))
  refine x_aload_n dL_law_178 rfl rfl (by decide) ?_
  refine x_iload dL_law_179 rfl ?_
  refine x_aload dL_law_181 rfl (by decide) ?_
  refine x_iload dL_law_183 rfl ?_
  refine x_ialdx (o := 45) dL_law_185 rfl hs45 (by omega) (by omega) ((h45b iv).trans (if_pos rfl)) ?_
  refine x_iconst dL_law_186 ?_
  refine x_callVI (o := 0) (ci := 7) (as := [(0, iv), (0, nq), (0, 2)]) (rest := []) (k := 0) (Gs := GG X) fL_law_187.g ⟨Nat.le_trans (Nat.le_of_ble_eq_true rfl) hRm.1, Nat.le_trans (Nat.le_of_ble_eq_true rfl) hRm.2.1⟩ ⟨by omega, by omega⟩ hKA hX46 (wf_gd Xt.rf ARR_GG hGb) rfl rfl rfl rfl rfl rfl rfl rfl (Nat.le_of_ble_eq_true rfl) ⟨nt_no (by decide), nt_no (by decide), nt_no (by decide), trivial⟩ (by decide) (s_X7_ifPut X 31 iv nq 2 μb hGb.cj (by omega) (by omega) (by decide)) (fun z8 μ8 h8 => ⟨wf_gd Xt.rf ARR_GG (hGb.fr (h8.1.wd (by omega) (by omega))), fun b hb => h8.1.at (by have h8 : (45 : Int) ≤ b := hb; omega) (by have h8 : (45 : Int) ≤ b := hb; omega)⟩) (fun wd μc h9 => ?_)
  obtain ⟨hFc, hwd⟩ := h9
  have hFc2 : Fr 6 19 1 0 μc μb := hFc.wd (by omega) (by omega)
  have hGc : GD μc 31 D m := hGb.fr hFc2
  rw [if_pos ⟨⟨hi.1, by rw [hGb.sz]; omega, by show 0 ≤ μb (31 + 8) iv; rw [(hGb.nt hi).1]; decide⟩, hq, by decide, by decide⟩, hGb.ddP hi] at hwd
  refine x_istore (ls' := [(3, 13), (2, 0), (9, 0), (0, (m : Int)), (2, 45), (0, iv), (0, dH D iv), (0, wd)]) dL_law_190 (Nat.le_of_ble_eq_true rfl) rfl rfl ?_
  have h45c : ∀ j : Int, μc 45 j = if j = iv then nq else μa 45 j := fun j => by rw [hFc.at (o := 45) (by decide) (by decide)]; exact h45b j
  have h3c : μc 3 2 = 0 := by rw [hFc.at (o := 3) (by decide) (by decide), hFb 3 (by decide)]; exact h3a
  refine x_aload_n dL_law_192 rfl rfl (by decide) ?_
  refine x_iload dL_law_193 rfl ?_
  refine x_aload dL_law_195 rfl (by decide) ?_
  refine x_iload dL_law_197 rfl ?_
  refine x_ialdx (o := 45) dL_law_199 rfl hs45 (by omega) (by omega) ((h45c iv).trans (if_pos rfl)) ?_
  refine x_callVI (o := 0) (ci := 7) (as := [(0, iv), (0, nq)]) (rest := []) (k := 1) (Gs := GG X) fL_law_200.g ⟨Nat.le_trans (Nat.le_of_ble_eq_true rfl) hRm.1, Nat.le_trans (Nat.le_of_ble_eq_true rfl) hRm.2.1⟩ ⟨by omega, by omega⟩ hKA hX46 (wf_gd Xt.rf ARR_GG hGc) rfl rfl rfl rfl rfl rfl rfl rfl (Nat.le_of_ble_eq_true rfl) ⟨nt_no (by decide), nt_no (by decide), trivial⟩ (by decide) (s_X7_put X 31 iv nq μc hGc.cj (by omega) (by omega) (by rw [h3c]; decide)) (fun z8 μ8 h8 => ⟨wf_gd Xt.rf ARR_GG (put_gd hGc hi hq (by rw [h3c]; decide) h8).1, fun b hb => h8.1.at (by have h8 : (45 : Int) ≤ b := hb; omega) (by have h8 : (45 : Int) ≤ b := hb; omega)⟩) (fun z2 μd h9 => ?_)
  obtain ⟨hGd, hz2, hh⟩ := put_gd hGc hi hq (by rw [h3c]; decide) h9
  obtain ⟨hd32, hd4, hd5⟩ := hh h3c
  have hr := hok.hr hi
  subst hz2
  refine x_iload dL_law_203 rfl ?_
  refine x_icmp_ne (tgt := 229) dL_law_205 rfl (R32.in (by omega)) (R32.in (by omega)) (fun q => absurd rfl q) (fun _ => ?_)
  have h45d : ∀ j : Int, 0 ≤ j → j < (m : Int) → μd 45 j = dH (hdS D iv nq) j := fun j j0 j1 => by
    rw [h9.1.at (o := 45) (by decide) (by decide), h45c j, h45a j j0 j1]; rfl
  refine x_aload_n dL_law_208 rfl rfl (by decide) ?_
  refine x_aload_nS dL_law_209 rfl rfl ?_
  refine x_aload dL_law_210 rfl (by decide) ?_
  refine x_callSX (as := [(2, 0), (3, 13), (2, 45)]) (rest := []) (k := 15) (mc := 30000) (ms := 130000) (P := ibP W μd) fL_law_212.g ⟨Nat.le_trans (Nat.le_of_ble_eq_true rfl) hRm.1, Nat.le_trans (Nat.le_of_ble_eq_true rfl) hRm.2.1⟩ ⟨by omega, by omega⟩ hKA (wf_gd hX46 hA46 hGd) rfl rfl rfl rfl rfl (Nat.le_of_ble_eq_true rfl) ⟨nt_no (by decide), fun _ => hL0, nt_no (by decide), nt_no (by decide), fun _ => hL1, nt_no (by decide), nt_no (by decide), nt_no (by decide), trivial⟩ trivial (s_L_isBest W X 31 (hdS D iv nq) m μd hlen46 hX46 hA46 hs45 hGd (hLH (hdS D iv nq) μd hGd rfl rfl h45d) (hbx (hdS D iv nq) rfl rfl) (hxx (hdS D iv nq) rfl rfl)) (fun G9 r9 μe hp9 hx9 => ?_)
  obtain ⟨hg9, rfl, hIμe⟩ := hp9
  have hg8 := hg9.symm
  subst hg8
  refine x_if_eq (tgt := 229) dL_law_215 rfl (R32.in (by decide)) (fun q => absurd q (by decide)) (fun _ => ?_)
  have hGe : GD μe 31 (hdS D iv nq) m := hGd.cg (fun o h => hIμe o (by omega) (by omega))
  have he32 : μe 3 2 = 1 := by rw [hIμe 3 (by decide) (by decide)]; exact hd32
  have he4 : μe 4 0 = iv := by rw [hIμe 4 (by decide) (by decide)]; exact hd4
  have he5 : μe 5 0 = dH D iv := by rw [hIμe 5 (by decide) (by decide)]; exact hd5
  refine x_aload_n dL_law_218 rfl rfl (by decide) ?_
  refine x_iconst dL_law_219 ?_
  refine x_iconst dL_law_220 ?_
  refine x_callVI (o := 0) (ci := 7) (as := [(0, 0), (0, 2)]) (rest := []) (k := 0) (Gs := GG X) fL_law_221.g ⟨Nat.le_trans (Nat.le_of_ble_eq_true rfl) hRm.1, Nat.le_trans (Nat.le_of_ble_eq_true rfl) hRm.2.1⟩ ⟨by omega, by omega⟩ hKA hX46 (wf_gd Xt.rf ARR_GG hGe) rfl rfl rfl rfl rfl rfl rfl rfl (Nat.le_of_ble_eq_true rfl) ⟨nt_no (by decide), nt_no (by decide), trivial⟩ (by decide) (q_best X 31 (hdS D iv nq) m 2 μe hGe (by decide)) (fun z8 μ8 h8 => ⟨wf_gd Xt.rf ARR_GG h8.2.1, fun b hb => h8.1.at (by have h8 : (45 : Int) ≤ b := hb; omega) (by have h8 : (45 : Int) ≤ b := hb; omega)⟩) (fun z3 μf h9 => ?_)
  obtain ⟨hFf, hGf, hz3⟩ := h9
  have hz39 : z3 = wd := hz3.trans hwd.symm
  subst hz39
  refine x_iload dL_law_224 rfl ?_
  refine x_icmp_eq_s (tgt := 231) dL_law_226 rfl ?_
  refine x_aload dL_law_231 rfl (by decide) ?_
  refine x_iload dL_law_233 rfl ?_
  refine x_iload dL_law_235 rfl ?_
  refine x_iast (o := 45) dL_law_237 rfl hs45 (by omega) hi.1 (by omega) ?_
  refine Gx.mu (fun μg hμg => ?_)
  have hFg : ∀ o : Int, o ≠ 45 → μg o = μf o := fun o ho => by rw [hμg, am_up_o ho]
  clear hμg
  have hGg : GD μg 31 (hdS D iv nq) m := hGf.cg (fun o h => hFg o (by omega))
  have hg3 : μg 3 2 = 1 := by rw [hFg 3 (by decide), hFf.at (o := 3) (by decide) (by decide)]; exact he32
  have hg4 : μg 4 0 = iv := by rw [hFg 4 (by decide), hFf.at (o := 4) (by decide) (by decide)]; exact he4
  have hg5 : μg 5 0 = dH D iv := by rw [hFg 5 (by decide), hFf.at (o := 5) (by decide) (by decide)]; exact he5
  have hi2 : 0 ≤ iv ∧ iv < dN (hdS D iv nq) := hi
  refine x_aload_n dL_law_238 rfl rfl (by decide) ?_
  refine x_callVI (o := 0) (ci := 7) (as := []) (rest := []) (k := 1) (Gs := GG X) fL_law_239.g ⟨Nat.le_trans (Nat.le_of_ble_eq_true rfl) hRm.1, Nat.le_trans (Nat.le_of_ble_eq_true rfl) hRm.2.1⟩ ⟨by omega, by omega⟩ hKA hX46 (wf_gd Xt.rf ARR_GG hGg) rfl rfl rfl rfl rfl rfl rfl rfl (Nat.le_of_ble_eq_true rfl) trivial (by decide) (s_X7_undo X 31 μg hGg.cj (by rw [hg3]; decide) (fun j j0 j1 => by rw [hg3] at j1; rw [show j = 0 by omega, hg4, hGg.sz]; omega)) (fun z8 μ8 h8 => ⟨wf_gd Xt.rf ARR_GG (undo_gd hGg hg3 hg4 hg5 hi2 hr h8).2.2, fun b hb => h8.1.at (by have h8 : (45 : Int) ≤ b := hb; omega) (by have h8 : (45 : Int) ≤ b := hb; omega)⟩) (fun z4 μh h9 => ?_)
  obtain ⟨hz4, hh32, hGh⟩ := undo_gd hGg hg3 hg4 hg5 hi2 hr h9
  subst hz4
  refine x_if_ne (tgt := 290) dL_law_242 rfl (R32.in (by decide)) (fun q => absurd rfl q) (fun _ => ?_)
  have un : ∀ (z8 : Int) (μ8 : Mu), (Fr 3 3 (31 + 5) (31 + 5) μ8 μh ∧ undP μh 31 z8 μ8) → z8 = -1 ∧ μ8 = μh := fun z8 μ8 h8 => by
    rcases h8.2 with ⟨-, a, b⟩ | ⟨a, -⟩
    · exact ⟨a, b⟩
    · rw [hh32] at a; exact absurd a (by decide)
  refine x_aload_n dL_law_245 rfl rfl (by decide) ?_
  refine x_callVI (o := 0) (ci := 7) (as := []) (rest := []) (k := 1) (Gs := GG X) fL_law_246.g ⟨Nat.le_trans (Nat.le_of_ble_eq_true rfl) hRm.1, Nat.le_trans (Nat.le_of_ble_eq_true rfl) hRm.2.1⟩ ⟨by omega, by omega⟩ hKA hX46 (wf_gd Xt.rf ARR_GG hGh) rfl rfl rfl rfl rfl rfl rfl rfl (Nat.le_of_ble_eq_true rfl) trivial (by decide) (s_X7_undo X 31 μh hGh.cj (by rw [hh32]; decide) (fun j j0 j1 => by rw [hh32] at j1; omega)) (fun z8 μ8 h8 => ⟨wf_gd Xt.rf ARR_GG (show GD μ8 31 (hdS (hdS D iv nq) iv (dH D iv)) m by rw [(un z8 μ8 h8).2]; exact hGh), fun b hb => h8.1.at (by have h8 : (45 : Int) ≤ b := hb; omega) (by have h8 : (45 : Int) ≤ b := hb; omega)⟩) (fun z5 μi h9 => ?_)
  obtain ⟨rfl, rfl⟩ := un z5 μi h9
  refine x_iconst (n := -1) dL_law_249 ?_
  refine x_icmp_ne (tgt := 290) dL_law_250 rfl (R32.in (by decide)) (R32.in (by decide)) (fun q => absurd rfl q) (fun _ => ?_)
  refine x_aload_n dL_law_253 rfl rfl (by decide) ?_
  refine x_iload dL_law_254 rfl ?_
  refine x_callVP (o := 0) (ci := 7) (as := [(0, iv)]) (rest := []) (k := 0) (Gs := GG X) fL_law_256.g ⟨Nat.le_trans (Nat.le_of_ble_eq_true rfl) hRm.1, Nat.le_trans (Nat.le_of_ble_eq_true rfl) hRm.2.1⟩ ⟨by omega, by omega⟩ hKA hX46 (wf_gd Xt.rf ARR_GG hGh) rfl rfl rfl rfl rfl rfl rfl rfl (Nat.le_of_ble_eq_true rfl) ⟨nt_no (by decide), trivial⟩ (by decide) (q_position X 31 (hdS (hdS D iv nq) iv (dH D iv)) m iv μi hGh hi) ?_
  refine Gx.topE (show dH (hdS (hdS D iv nq) iv (dH D iv)) iv = dH D iv from if_pos rfl) ?_
  refine x_iload dL_law_259 rfl ?_
  refine x_icmp_ne (tgt := 290) dL_law_261 rfl (R32.in (by omega)) (R32.in (by omega)) (fun q => absurd rfl q) (fun _ => ?_)
  refine x_aload_n dL_law_264 rfl rfl (by decide) ?_
  refine x_iconst dL_law_265 ?_
  refine x_iconst dL_law_266 ?_
  refine x_callVI (o := 0) (ci := 7) (as := [(0, 1), (0, 0)]) (rest := []) (k := 0) (Gs := GG X) fL_law_267.g ⟨Nat.le_trans (Nat.le_of_ble_eq_true rfl) hRm.1, Nat.le_trans (Nat.le_of_ble_eq_true rfl) hRm.2.1⟩ ⟨by omega, by omega⟩ hKA hX46 (wf_gd Xt.rf ARR_GG hGh) rfl rfl rfl rfl rfl rfl rfl rfl (Nat.le_of_ble_eq_true rfl) ⟨nt_no (by decide), nt_no (by decide), trivial⟩ (by decide) (s_X7_best X 31 1 0 μi hGh.cj (by decide) (by decide)) (fun z8 μ8 h8 => ⟨wf_gd Xt.rf ARR_GG (hGh.fr (h8.1.wd (by omega) (by omega))), fun b hb => h8.1.at (by have h8 : (45 : Int) ≤ b := hb; omega) (by have h8 : (45 : Int) ≤ b := hb; omega)⟩) (fun z6 μj h9 => ?_)
  obtain ⟨hFj, hz6⟩ := h9
  have hGj : GD μj 31 (hdS (hdS D iv nq) iv (dH D iv)) m := hGh.fr (hFj.wd (by omega) (by omega))
  rw [if_neg (fun q => by have h8 := q.1.2; rw [hGh.g1] at h8; omega)] at hz6
  subst hz6
  refine x_ldc (n := -1000000) dL_law_270 k_1179 (by decide) ?_
  refine x_icmp_ne (tgt := 290) dL_law_272 rfl (R32.in (by decide)) (R32.in (by decide)) (fun q => absurd rfl q) (fun _ => ?_)
  have pn : ∀ (z8 : Int) (μ8 : Mu), (Fr 3 5 (31 + 5) (31 + 5) μ8 μj ∧ putP μj 31 (m : Int) 0 z8 μ8) → z8 = -1000000 ∧ μ8 = μj := fun z8 μ8 h8 => by
    rcases h8.2 with ⟨⟨⟨-, a, -⟩, -⟩, -⟩ | ⟨-, a, b⟩
    · rw [hGj.sz] at a; omega
    · exact ⟨a, b⟩
  have hj32 : μj 3 2 = 0 := by rw [hFj.at (o := 3) (by decide) (by decide)]; exact hh32
  refine x_aload_n dL_law_275 rfl rfl (by decide) ?_
  refine x_iload_n dL_law_276 rfl rfl ?_
  refine x_iconst dL_law_277 ?_
  refine x_callVI (o := 0) (ci := 7) (as := [(0, (m : Int)), (0, 0)]) (rest := []) (k := 1) (Gs := GG X) fL_law_278.g ⟨Nat.le_trans (Nat.le_of_ble_eq_true rfl) hRm.1, Nat.le_trans (Nat.le_of_ble_eq_true rfl) hRm.2.1⟩ ⟨by omega, by omega⟩ hKA hX46 (wf_gd Xt.rf ARR_GG hGj) rfl rfl rfl rfl rfl rfl rfl rfl (Nat.le_of_ble_eq_true rfl) ⟨nt_no (by decide), nt_no (by decide), trivial⟩ (by decide) (s_X7_put X 31 (m : Int) 0 μj hGj.cj (by omega) (by decide) (by rw [hj32]; decide)) (fun z8 μ8 h8 => ⟨wf_gd Xt.rf ARR_GG (show GD μ8 31 (hdS (hdS D iv nq) iv (dH D iv)) m by rw [(pn z8 μ8 h8).2]; exact hGj), fun b hb => h8.1.at (by have h8 : (45 : Int) ≤ b := hb; omega) (by have h8 : (45 : Int) ≤ b := hb; omega)⟩) (fun z7 μk h9 => ?_)
  obtain ⟨rfl, rfl⟩ := pn z7 μk h9
  refine x_ldc (n := -1000000) dL_law_281 k_1179 (by decide) ?_
  refine x_icmp_ne (tgt := 290) dL_law_283 rfl (R32.in (by decide)) (R32.in (by decide)) (fun q => absurd rfl q) (fun _ => ?_)
  refine x_iconst dL_law_286 ?_
  refine x_goto (tgt := 291) dL_law_287 rfl ?_
  refine Gx.loc (ls' := [(9, 0), (9, 0), (9, 0), (9, 0), (9, 0), (9, 0), (9, 0), (9, 0)]) (fun q9 hq9 => by simp [am_l] at hq9) ?_
  exact KK _ _ _ _ (by omega) (by omega)
end lawq
