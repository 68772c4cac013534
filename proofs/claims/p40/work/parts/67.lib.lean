/-! ===== The law's isBest: one group in the class, what its methods answer; worlds with rows behind ===== -/
/-- no objects but rows behind the class's -/
def ARR (G : AG) : Prop := ∀ (o ci n : Nat), (gS G)[o]? = some (ci, n) → ci < 20 → o < 45
/-- one group, of all notes -/
def GD (μ : Mu) (p : Int) (D : GDt) (nn : Nat) : Prop := CJ μ p ∧ ((μ p 7 = nn ∧ μ p 14 = 1) ∧ (μ (p + 9) 0 = 0 ∧ μ (p + 10) 0 = nn)) ∧ ddt μ p (p + 5) (μ p 3) 0 = D ∧ μ 42 7 < 45
section lib
variable {X : AX} {G : AG} {μ μ1 : Mu} {p : Int} {D : GDt} {nn : Nat} {q : Nat} {i : Int}
theorem ARR.ax {x : Nat × Nat} (h : ARR G) (hx : 20 ≤ x.1) : ARR (ax G x q) := by
  intro o ci n hs hc
  change (gS G ++ [x])[o]? = some (ci, n) at hs
  rcases Nat.lt_trichotomy o (gS G).length with ho | ho | ho
  · rw [List.getElem?_append_left ho] at hs
    exact h o ci n hs hc
  · subst ho
    simp at hs
    rw [hs] at hx
    exact absurd hc (by simp only at hx; omega)
  · rw [List.getElem?_eq_none (by simp; omega)] at hs
    cases hs
theorem GG_len : (gS (GG X)).length = 45 := rfl
theorem ARR_GG : ARR (GG X) := by
  intro o ci n hs _
  have := am_sh_lt hs
  rw [GG_len] at this
  exact this
theorem am_ref_fin : ∀ o : Fin 45, ∀ k : Fin 18, am_RF o.val k.val < 45 := by decide +kernel
theorem am_tag_fin : ∀ o : Fin 45, ∀ k : Fin 18, (am_SH.getD o.val (99, 0)).1 < 20 → 2 < am_ct (am_SH.getD o.val (99, 0)).1 k.val → (o.val = 0 ∧ (k.val = 7 ∨ k.val = 8)) ∨ (o.val = 42 ∧ k.val = 7) := by decide +kernel
theorem am_len_fin : ∀ o : Fin 45, (am_SH.getD o.val (99, 0)).1 < 20 → (am_SH.getD o.val (99, 0)).2 ≤ 18 := by decide +kernel
theorem wf_x (hX : Xt (GG X) G) (hA : ARR G) (h7 : μ 0 7 < 45 ∧ μ 0 8 < 45 ∧ μ 42 7 < 45) : wfm G μ := by
  intro o ci n hs hc k hk
  have ho := hA o ci n hs hc
  have hl := hX.len
  rw [GG_len] at hl
  obtain ⟨y, hy⟩ : ∃ y, (gS (GG X))[o]? = some y := ⟨_, List.getElem?_eq_getElem (by rw [GG_len]; exact ho)⟩
  have hy2 := hX.sh hy
  rw [hs] at hy2
  cases hy2
  have hd : am_SH.getD o (99, 0) = (ci, n) := by
    have := am_sh_d hy
    exact this
  have hn := am_len_fin ⟨o, ho⟩ (by rw [hd]; exact hc)
  rw [hd] at hn
  refine ⟨fun _ => ?_, fun ht => ?_⟩
  · rw [hX.2.2.2.2.2.1]
    have := am_ref_fin ⟨o, ho⟩ ⟨k, by simp only at hn; omega⟩
    show am_RF o k < _
    simp only at this
    omega
  · have h9 := am_tag_fin ⟨o, ho⟩ ⟨k, by simp only at hn; omega⟩ (by rw [hd]; exact hc) (by rw [hd]; exact ht)
    simp only at h9
    rcases h9 with ⟨rfl, rfl | rfl⟩ | ⟨rfl, rfl⟩
    · have := h7.1; show μ 0 7 < _; omega
    · have := h7.2.1; show μ 0 8 < _; omega
    · have := h7.2.2; show μ 42 7 < _; omega
theorem wf_cj (hX : Xt (GG X) G) (hA : ARR G) (h : CJ μ p) (h42 : μ 42 7 < 45) : wfm G μ := by
  have h1 := h.p7
  have h2 := h.p8
  have h3 := h.i.at
  exact wf_x hX hA ⟨by omega, by omega, h42⟩
theorem GD.cj (h : GD μ p D nn) : CJ μ p := h.1
theorem wf_gd (hX : Xt (GG X) G) (hA : ARR G) (h : GD μ p D nn) : wfm G μ := wf_cj hX hA h.cj h.2.2.2
theorem GD.at (h : GD μ p D nn) : p = 20 ∨ p = 31 := h.1.i.at
theorem GD.sz (h : GD μ p D nn) : μ p 7 = nn := h.2.1.1.1
theorem GD.g1 (h : GD μ p D nn) : μ p 14 = 1 := h.2.1.1.2
theorem GD.dd (h : GD μ p D nn) : ddt μ p (p + 5) (μ p 3) 0 = D := h.2.2.1
theorem GD.dD (h : GD μ p D nn) : D = gdt μ p (p + 5) 0 nn (μ p 3) := by
  rw [← h.2.2.1]
  show gdt μ p (p + 5) (μ (p + 9) 0) (μ (p + 10) 0) (μ p 3) = _
  rw [h.2.1.2.1, h.2.1.2.2]
theorem GD.n (h : GD μ p D nn) : (nn : Int) = dN D := by rw [h.dD]; rfl
theorem GD.kn (h : GD μ p D nn) : dK D = μ p 3 := by rw [h.dD]; rfl
theorem GD.ok (h : GD μ p D nn) : GOK D := by
  rw [← h.2.2.1]
  exact gdt_ok h.1.i h.1.pg (h.1.ld5 (g := 0) (by rw [h.g1]; decide) h.1.kn)
theorem GD.hd (h : GD μ p D nn) (hi : 0 ≤ i ∧ i < dN D) : dH D i = μ (p + 5) i := by
  rw [← h.n] at hi
  rw [h.dD, gdt_h hi, Int.zero_add]
theorem GD.nt (h : GD μ p D nn) (hi : 0 ≤ i ∧ i < dN D) : μ (p + 8) i = 0 ∧ μ (p + 4) i = 1 := by
  rw [← h.n] at hi
  have h1 := (h.1.pg.2.1 0 (by decide) (by rw [h.g1]; decide)).2 i (by rw [h.2.1.2.1]; exact hi.1) (by rw [h.2.1.2.1, h.2.1.2.2]; omega)
  exact ⟨h1.1, h1.2.1⟩
theorem GD.cg (h : GD μ p D nn) (e : ∀ o : Int, (0 ≤ o ∧ o ≤ 0) ∨ (p ≤ o ∧ o ≤ p + 10) ∨ (42 ≤ o ∧ o ≤ 42) → μ1 o = μ o) : GD μ1 p D nn := by
  have e1 := fun o h1 => e o (Or.inr (Or.inl h1))
  refine ⟨h.1.cg (fun o h1 => e o (h1.elim Or.inl (fun q => Or.inr (Or.inl q)))), ?_, ?_, by rw [e 42 (by omega)]; exact h.2.2.2⟩
  · rw [e1 p (by omega), e1 (p + 9) (by omega), e1 (p + 10) (by omega)]; exact h.2.1
  · rw [← h.2.2.1]
    show gdtF μ1 p (μ1 (p + 5)) (μ1 (p + 9) 0) (μ1 (p + 10) 0) (μ1 p 3) = gdtF μ p (μ (p + 5)) (μ (p + 9) 0) (μ (p + 10) 0) (μ p 3)
    rw [e1 p (by omega), e1 (p + 9) (by omega), e1 (p + 10) (by omega), e1 (p + 5) (by omega)]
    exact gdtF_cg e1 (fun _ _ _ => rfl)
theorem GD.fr (h : GD μ p D nn) (F : Fr 6 19 1 0 μ1 μ) : GD μ1 p D nn := by
  have := h.at
  exact h.cg (fun o h1 => F.at (by omega) (by omega))
/-- what the class answers -/
theorem q_position (X : AX) (p : Int) (D : GDt) (nn : Nat) (i : Int) (μ : Mu) (h : GD μ p D nn) (hi : 0 ≤ i ∧ i < dN D) : Wp (GG X) M_X7_position 0 [(2, 0), (0, i)] [] μ (pP 0 (dH D i) μ) := by
  have hn := h.n
  have hok := h.ok.n
  refine (s_X7_position X p i μ h.cj (by omega)).toP ?_
  rw [if_pos ⟨hi.1, by rw [h.sz]; omega, (h.nt hi).2⟩, h.hd hi]
theorem q_direction (X : AX) (p : Int) (D : GDt) (nn : Nat) (i : Int) (μ : Mu) (h : GD μ p D nn) (hi : 0 ≤ i ∧ i < dN D) : Wp (GG X) M_X7_direction 0 [(2, 0), (0, i)] [] μ (qI 0 fun z μ' => Fr 6 19 1 0 μ' μ ∧ GD μ' p D nn ∧ z = way D i) := by
  have hn := h.n
  have hok := h.ok.n
  refine (s_X7_direction X p i μ h.cj (by omega)).mono ?_
  rintro r μ' ⟨z, rfl, hF, hz⟩
  have hF2 : Fr 6 19 1 0 μ' μ := hF.wd (by omega) (by omega)
  refine ⟨z, rfl, hF2, h.fr hF2, ?_⟩
  rw [hz, if_pos ⟨hi.1, by rw [h.sz]; omega⟩, if_pos (by rw [(h.nt hi).1]; decide), (h.nt hi).1, h.dd, h.2.1.2.1, Int.sub_zero]
theorem q_best (X : AX) (p : Int) (D : GDt) (nn : Nat) (w : Int) (μ : Mu) (h : GD μ p D nn) (hw : 0 ≤ w ∧ w ≤ 5) : Wp (GG X) M_X7_best 0 [(2, 0), (0, 0), (0, w)] [] μ (qI 0 fun z μ' => Fr 6 19 1 0 μ' μ ∧ GD μ' p D nn ∧ z = ansB D w) := by
  refine (s_X7_best X p 0 w μ h.cj (by decide) (by omega)).mono ?_
  rintro r μ' ⟨z, rfl, hF, hz⟩
  have hF2 : Fr 6 19 1 0 μ' μ := hF.wd (by omega) (by omega)
  refine ⟨z, rfl, hF2, h.fr hF2, ?_⟩
  rw [hz, if_pos ⟨by rw [h.g1]; decide, hw⟩, h.dd]
theorem q_group (X : AX) (p : Int) (D : GDt) (nn : Nat) (w : Int) (μ : Mu) (h : GD μ p D nn) (hw : 0 ≤ w ∧ w ≤ 6) : Wp (GG X) M_X7_group 0 [(2, 0), (0, 0), (0, w)] [] μ (qI 0 fun z μ' => Fr 6 19 1 0 μ' μ ∧ GD μ' p D nn ∧ z = grV D 0 w) := by
  refine (s_X7_group X p 0 w μ h.cj (by decide) (by omega) (by unfold grT; rw [if_neg (fun q => q (by rw [h.g1]; decide)), if_neg (fun q => q hw)])).mono ?_
  rintro r μ' ⟨z, rfl, hF, hz⟩
  have hF2 : Fr 6 19 1 0 μ' μ := hF.wd (by omega) (by omega)
  refine ⟨z, rfl, hF2, h.fr hF2, ?_⟩
  rw [hz, h.dd, h.2.1.2.1]
theorem q_total (X : AX) (p : Int) (D : GDt) (nn : Nat) (μ : Mu) (h : GD μ p D nn) : Wp (GG X) M_X7_total 0 [(2, 0), (0, 1)] [] μ (qI 0 fun z μ' => Fr 6 19 1 0 μ' μ ∧ GD μ' p D nn ∧ z = if mnK D = 9223372036854775807 then 1 else 0) := by
  refine (s_X7_total X p 1 μ h.cj (by decide)).mono ?_
  rintro r μ' ⟨z, rfl, hF, hz⟩
  have hF2 : Fr 6 19 1 0 μ' μ := hF.wd (by omega) (by omega)
  refine ⟨z, rfl, hF2, h.fr hF2, ?_⟩
  rw [hz, if_pos (by decide), h.g1]
  have e : tst (ddt μ p (p + 5) (μ p 3)) 1 = tstep D 0 (0, 0, -2, -1, 0) := by
    rw [show (1 : Int) = 0 + 1 from rfl, tst_s (by decide), h.dd]
    rfl
  rw [e]
  by_cases hm : mnK D = 9223372036854775807
  · rw [tstep_no hm, if_pos hm]; rfl
  · rw [tstep_ya hm, if_neg hm]; rfl
theorem q_ugliness (X : AX) (p : Int) (D : GDt) (nn : Nat) (l r : Int) (μ : Mu) (h : GD μ p D nn) (hlr : (-60 ≤ l ∧ l ≤ 60) ∧ (-60 ≤ r ∧ r ≤ 60) ∧ (-8 ≤ r - l ∧ r - l ≤ 8)) : Wp (GG X) M_X7_ugliness 0 [(2, 0), (0, 0), (0, l), (0, r), (0, 0)] [] μ (qI 0 fun z μ' => Fr 6 19 1 0 μ' μ ∧ GD μ' p D nn ∧ z = if alwB D (r - l) l = true then ugl D (r - l) l else -2) := by
  refine (s_X7_ugliness X p 0 l r 0 μ h.cj (by decide) (by omega) (by omega) (by decide)).mono ?_
  rintro rr μ' ⟨z, rfl, hF, hz⟩
  have hF2 : Fr 6 19 1 0 μ' μ := hF.wd (by omega) (by omega)
  refine ⟨z, rfl, hF2, h.fr hF2, ?_⟩
  rw [hz, if_pos ⟨by rw [h.g1]; decide, hlr, by decide, by decide⟩, h.dd]
  rfl
theorem q_rank (X : AX) (p : Int) (D : GDt) (nn : Nat) (l r : Int) (μ : Mu) (h : GD μ p D nn) (hlr : (-60 ≤ l ∧ l ≤ 60) ∧ (-60 ≤ r ∧ r ≤ 60) ∧ (-8 ≤ r - l ∧ r - l ≤ 8)) : Wp (GG X) M_X7_rank 0 [(2, 0), (0, 0), (0, l), (0, r)] [] μ (qI 0 fun z μ' => Fr 6 19 1 0 μ' μ ∧ GD μ' p D nn ∧ z = if alwB D (r - l) l = true then rkD D (key D (r - l) l) else -2) := by
  refine (s_X7_rank X p 0 l r μ h.cj (by decide) (by omega) (by omega)).mono ?_
  rintro rr μ' ⟨z, rfl, hF, hz⟩
  have hF2 : Fr 6 19 1 0 μ' μ := hF.wd (by omega) (by omega)
  refine ⟨z, rfl, hF2, h.fr hF2, ?_⟩
  rw [hz, if_pos ⟨by rw [h.g1]; decide, hlr⟩, h.dd]
theorem q_ranked (X : AX) (p : Int) (D : GDt) (nn : Nat) (k w : Int) (μ : Mu) (h : GD μ p D nn) (hk : -2147483648 ≤ k ∧ k ≤ 2147483647) (hw : 0 ≤ w ∧ w ≤ 5) : Wp (GG X) M_X7_ranked 0 [(2, 0), (0, 0), (0, k), (0, w)] [] μ (qI 0 fun z μ' => Fr 6 19 1 0 μ' μ ∧ GD μ' p D nn ∧ ((0 ≤ k ∧ k < cnD D ∧ ∃ s l, inS s l ∧ alw D s l ∧ rkD D (key D s l) = k ∧ z = tlv D s l w) ∨ (¬ (0 ≤ k ∧ k < cnD D) ∧ z = -1000000))) := by
  refine (s_X7_ranked X p 0 k w μ h.cj (by decide) hk (by omega)).mono ?_
  rintro rr μ' ⟨z, rfl, hF, hz⟩
  have hF2 : Fr 6 19 1 0 μ' μ := hF.wd (by omega) (by omega)
  refine ⟨z, rfl, hF2, h.fr hF2, ?_⟩
  rw [h.dd] at hz
  rcases hz with ⟨h1, h2⟩ | ⟨h1, h2⟩
  · exact Or.inl ⟨h1.2.1, h1.2.2.1, h2⟩
  · exact Or.inr ⟨fun q => h1 ⟨by rw [h.g1]; decide, q.1, q.2, hw⟩, h2⟩
end lib
