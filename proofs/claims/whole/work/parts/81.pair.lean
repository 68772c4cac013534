/-! ===== The pairs: both sides answer the same, and what holds goes on ===== -/
section prs
variable {μ : Mu} {p : Int}
theorem pr_fault (X : AX) (h : INV μ p) (w : Int) (hw : -2147483648 ≤ w ∧ w ≤ 2147483647) : PR X M_X7_fault M_X8_fault [(2, 0), (0, w)] [(2, 45), (0, w)] μ := by
  have hp := h.cj.i.at
  obtain ⟨_, μ1, e7, rfl, e9⟩ := s_X7_fault X p w μ h.cj hw
  have h1 : INV μ1 p := by rw [e9]; exact h
  have eP : ∀ o : Int, p ≤ o ∧ o ≤ p + 10 → μ1 o = μ o := fun o _ => congrFun e9 o
  have ea : ∀ o : Int, ¬ (6 ≤ o ∧ o ≤ 19) → μ1 o = μ o := fun o _ => congrFun e9 o
  obtain ⟨_, μ2, e8, z8, rfl, F8, w8, hJ, f8⟩ := s_X8_fault X p w μ1 h1.cj h1.rj hw
  have e2 : ∀ o : Int, o ≤ 44 ∨ o = 46 ∨ o = 47 ∨ o = 62 ∨ o = 69 ∨ o = 70 → μ2 o = μ1 o := fun o h9 => F8.at (by omega) (by omega)
  have h2 : INV μ2 p := h1.b hJ e2 (fun k9 h9 => f8 k9 (by omega))
  have g0 : μ1 p = μ p := eP _ (by omega)
  have g3 : μ1 (p + 3) = μ (p + 3) := eP _ (by omega)
  have g4 : μ1 (p + 4) = μ (p + 4) := eP _ (by omega)
  have g5 : μ1 (p + 5) = μ (p + 5) := eP _ (by omega)
  have g7 : μ1 (p + 7) = μ (p + 7) := eP _ (by omega)
  have g8 : μ1 (p + 8) = μ (p + 8) := eP _ (by omega)
  have g9 : μ1 (p + 9) = μ (p + 9) := eP _ (by omega)
  have g10 : μ1 (p + 10) = μ (p + 10) := eP _ (by omega)
  rw [h1.fi.1, h1.fi.2, ea 42 (by omega)] at w8
  exact ⟨_, μ1, μ2, e7, w8 ▸ e8, p, h2⟩
theorem pr_position (X : AX) (h : INV μ p) (i : Int) (hi : -2147483648 ≤ i ∧ i ≤ 2147483647) : PR X M_X7_position M_X8_position [(2, 0), (0, i)] [(2, 45), (0, i)] μ := by
  have hp := h.cj.i.at
  obtain ⟨_, μ1, e7, rfl, e9⟩ := s_X7_position X p i μ h.cj hi
  have h1 : INV μ1 p := by rw [e9]; exact h
  have eP : ∀ o : Int, p ≤ o ∧ o ≤ p + 10 → μ1 o = μ o := fun o _ => congrFun e9 o
  have ea : ∀ o : Int, ¬ (6 ≤ o ∧ o ≤ 19) → μ1 o = μ o := fun o _ => congrFun e9 o
  obtain ⟨_, μ2, e8, z8, rfl, F8, w8, hJ, f8⟩ := s_X8_position X p i μ1 h1.cj h1.rj hi
  have e2 : ∀ o : Int, o ≤ 44 ∨ o = 46 ∨ o = 47 ∨ o = 62 ∨ o = 69 ∨ o = 70 → μ2 o = μ1 o := fun o h9 => F8.at (by omega) (by omega)
  have h2 : INV μ2 p := h1.b hJ e2 (fun k9 h9 => f8 k9 (by omega))
  have g0 : μ1 p = μ p := eP _ (by omega)
  have g3 : μ1 (p + 3) = μ (p + 3) := eP _ (by omega)
  have g4 : μ1 (p + 4) = μ (p + 4) := eP _ (by omega)
  have g5 : μ1 (p + 5) = μ (p + 5) := eP _ (by omega)
  have g7 : μ1 (p + 7) = μ (p + 7) := eP _ (by omega)
  have g8 : μ1 (p + 8) = μ (p + 8) := eP _ (by omega)
  have g9 : μ1 (p + 9) = μ (p + 9) := eP _ (by omega)
  have g10 : μ1 (p + 10) = μ (p + 10) := eP _ (by omega)
  simp only [g0, g4, g5] at w8
  exact ⟨_, μ1, μ2, e7, w8 ▸ e8, p, h2⟩
theorem pr_direction (X : AX) (h : INV μ p) (i : Int) (hi : -2147483648 ≤ i ∧ i ≤ 2147483647) : PR X M_X7_direction M_X8_direction [(2, 0), (0, i)] [(2, 45), (0, i)] μ := by
  have hp := h.cj.i.at
  obtain ⟨_, μ1, e7, z7, rfl, F7, w7⟩ := s_X7_direction X p i μ h.cj hi
  have F7 : Fr 6 19 1 0 μ1 μ := F7.wd (by omega) (by omega)
  have h1 : INV μ1 p := h.a F7
  have eP : ∀ o : Int, p ≤ o ∧ o ≤ p + 10 → μ1 o = μ o := fun o h9 => F7.at (by omega) (by omega)
  have ea : ∀ o : Int, ¬ (6 ≤ o ∧ o ≤ 19) → μ1 o = μ o := fun o h9 => F7.at (by omega) (by omega)
  obtain ⟨_, μ2, e8, z8, rfl, F8, w8, hJ, f8⟩ := s_X8_direction X p i μ1 h1.cj h1.rj hi
  have e2 : ∀ o : Int, o ≤ 44 ∨ o = 46 ∨ o = 47 ∨ o = 62 ∨ o = 69 ∨ o = 70 → μ2 o = μ1 o := fun o h9 => F8.at (by omega) (by omega)
  have h2 : INV μ2 p := h1.b hJ e2 (fun k9 h9 => f8 k9 (by omega))
  have g0 : μ1 p = μ p := eP _ (by omega)
  have g3 : μ1 (p + 3) = μ (p + 3) := eP _ (by omega)
  have g4 : μ1 (p + 4) = μ (p + 4) := eP _ (by omega)
  have g5 : μ1 (p + 5) = μ (p + 5) := eP _ (by omega)
  have g7 : μ1 (p + 7) = μ (p + 7) := eP _ (by omega)
  have g8 : μ1 (p + 8) = μ (p + 8) := eP _ (by omega)
  have g9 : μ1 (p + 9) = μ (p + 9) := eP _ (by omega)
  have g10 : μ1 (p + 10) = μ (p + 10) := eP _ (by omega)
  simp only [ddt_cg eP, g0, g8, g9] at w8
  have hz : z8 = z7 := w8.trans w7.symm
  exact ⟨z7, μ1, μ2, e7, hz ▸ e8, p, h2⟩
theorem pr_want (X : AX) (h : INV μ p) (g : Int) (hg : -2147483648 ≤ g ∧ g ≤ 2147483647) : PR X M_X7_want M_X8_want [(2, 0), (0, g)] [(2, 45), (0, g)] μ := by
  have hp := h.cj.i.at
  obtain ⟨_, μ1, e7, z7, rfl, F7, w7⟩ := s_X7_want X p g μ h.cj hg
  have F7 : Fr 6 19 1 0 μ1 μ := F7.wd (by omega) (by omega)
  have h1 : INV μ1 p := h.a F7
  have eP : ∀ o : Int, p ≤ o ∧ o ≤ p + 10 → μ1 o = μ o := fun o h9 => F7.at (by omega) (by omega)
  have ea : ∀ o : Int, ¬ (6 ≤ o ∧ o ≤ 19) → μ1 o = μ o := fun o h9 => F7.at (by omega) (by omega)
  obtain ⟨_, μ2, e8, z8, rfl, F8, w8, hJ, f8⟩ := s_X8_want X p g μ1 h1.cj h1.rj hg
  have e2 : ∀ o : Int, o ≤ 44 ∨ o = 46 ∨ o = 47 ∨ o = 62 ∨ o = 69 ∨ o = 70 → μ2 o = μ1 o := fun o h9 => F8.at (by omega) (by omega)
  have h2 : INV μ2 p := h1.b hJ e2 (fun k9 h9 => f8 k9 (by omega))
  have g0 : μ1 p = μ p := eP _ (by omega)
  have g3 : μ1 (p + 3) = μ (p + 3) := eP _ (by omega)
  have g4 : μ1 (p + 4) = μ (p + 4) := eP _ (by omega)
  have g5 : μ1 (p + 5) = μ (p + 5) := eP _ (by omega)
  have g7 : μ1 (p + 7) = μ (p + 7) := eP _ (by omega)
  have g8 : μ1 (p + 8) = μ (p + 8) := eP _ (by omega)
  have g9 : μ1 (p + 9) = μ (p + 9) := eP _ (by omega)
  have g10 : μ1 (p + 10) = μ (p + 10) := eP _ (by omega)
  simp only [ddt_cg eP, g0] at w8
  have hz : z8 = z7 := w8.trans w7.symm
  exact ⟨z7, μ1, μ2, e7, hz ▸ e8, p, h2⟩
theorem pr_ideal (X : AX) (h : INV μ p) (i : Int) (hi : -2147483648 ≤ i ∧ i ≤ 2147483647) : PR X M_X7_ideal M_X8_ideal [(2, 0), (0, i)] [(2, 45), (0, i)] μ := by
  have hp := h.cj.i.at
  obtain ⟨_, μ1, e7, z7, rfl, F7, w7⟩ := s_X7_ideal X p i μ h.cj hi
  have F7 : Fr 6 19 1 0 μ1 μ := F7.wd (by omega) (by omega)
  have h1 : INV μ1 p := h.a F7
  have eP : ∀ o : Int, p ≤ o ∧ o ≤ p + 10 → μ1 o = μ o := fun o h9 => F7.at (by omega) (by omega)
  have ea : ∀ o : Int, ¬ (6 ≤ o ∧ o ≤ 19) → μ1 o = μ o := fun o h9 => F7.at (by omega) (by omega)
  obtain ⟨_, μ2, e8, z8, rfl, F8, w8, hJ, f8⟩ := s_X8_ideal X p i μ1 h1.cj h1.rj hi
  have e2 : ∀ o : Int, o ≤ 44 ∨ o = 46 ∨ o = 47 ∨ o = 62 ∨ o = 69 ∨ o = 70 → μ2 o = μ1 o := fun o h9 => F8.at (by omega) (by omega)
  have h2 : INV μ2 p := h1.b hJ e2 (fun k9 h9 => f8 k9 (by omega))
  have g0 : μ1 p = μ p := eP _ (by omega)
  have g3 : μ1 (p + 3) = μ (p + 3) := eP _ (by omega)
  have g4 : μ1 (p + 4) = μ (p + 4) := eP _ (by omega)
  have g5 : μ1 (p + 5) = μ (p + 5) := eP _ (by omega)
  have g7 : μ1 (p + 7) = μ (p + 7) := eP _ (by omega)
  have g8 : μ1 (p + 8) = μ (p + 8) := eP _ (by omega)
  have g9 : μ1 (p + 9) = μ (p + 9) := eP _ (by omega)
  have g10 : μ1 (p + 10) = μ (p + 10) := eP _ (by omega)
  simp only [ddt_cg eP, g0, g8, g9] at w8
  have hz : z8 = z7 := w8.trans w7.symm
  exact ⟨z7, μ1, μ2, e7, hz ▸ e8, p, h2⟩
theorem pr_ugliness (X : AX) (h : INV μ p) (g : Int) (l : Int) (r : Int) (w : Int) (hg : -2147483648 ≤ g ∧ g ≤ 2147483647) (hl : -2147483648 ≤ l ∧ l ≤ 2147483647) (hr : -2147483648 ≤ r ∧ r ≤ 2147483647) (hw : -2147483648 ≤ w ∧ w ≤ 2147483647) : PR X M_X7_ugliness M_X8_ugliness [(2, 0), (0, g), (0, l), (0, r), (0, w)] [(2, 45), (0, g), (0, l), (0, r), (0, w)] μ := by
  have hp := h.cj.i.at
  obtain ⟨_, μ1, e7, z7, rfl, F7, w7⟩ := s_X7_ugliness X p g l r w μ h.cj hg hl hr hw
  have F7 : Fr 6 19 1 0 μ1 μ := F7.wd (by omega) (by omega)
  have h1 : INV μ1 p := h.a F7
  have eP : ∀ o : Int, p ≤ o ∧ o ≤ p + 10 → μ1 o = μ o := fun o h9 => F7.at (by omega) (by omega)
  have ea : ∀ o : Int, ¬ (6 ≤ o ∧ o ≤ 19) → μ1 o = μ o := fun o h9 => F7.at (by omega) (by omega)
  obtain ⟨_, μ2, e8, z8, rfl, F8, w8, hJ, f8⟩ := s_X8_ugliness X p g l r w μ1 h1.cj h1.rj hg hl hr hw
  have e2 : ∀ o : Int, o ≤ 44 ∨ o = 46 ∨ o = 47 ∨ o = 62 ∨ o = 69 ∨ o = 70 → μ2 o = μ1 o := fun o h9 => F8.at (by omega) (by omega)
  have h2 : INV μ2 p := h1.b hJ e2 (fun k9 h9 => f8 k9 (by omega))
  have g0 : μ1 p = μ p := eP _ (by omega)
  have g3 : μ1 (p + 3) = μ (p + 3) := eP _ (by omega)
  have g4 : μ1 (p + 4) = μ (p + 4) := eP _ (by omega)
  have g5 : μ1 (p + 5) = μ (p + 5) := eP _ (by omega)
  have g7 : μ1 (p + 7) = μ (p + 7) := eP _ (by omega)
  have g8 : μ1 (p + 8) = μ (p + 8) := eP _ (by omega)
  have g9 : μ1 (p + 9) = μ (p + 9) := eP _ (by omega)
  have g10 : μ1 (p + 10) = μ (p + 10) := eP _ (by omega)
  simp only [ddt_cg eP, g0] at w8
  have hz : z8 = z7 := w8.trans w7.symm
  exact ⟨z7, μ1, μ2, e7, hz ▸ e8, p, h2⟩
theorem pr_best (X : AX) (h : INV μ p) (g : Int) (w : Int) (hg : -2147483648 ≤ g ∧ g ≤ 2147483647) (hw : -2147483648 ≤ w ∧ w ≤ 2147483647) : PR X M_X7_best M_X8_best [(2, 0), (0, g), (0, w)] [(2, 45), (0, g), (0, w)] μ := by
  have hp := h.cj.i.at
  obtain ⟨_, μ1, e7, z7, rfl, F7, w7⟩ := s_X7_best X p g w μ h.cj hg hw
  have F7 : Fr 6 19 1 0 μ1 μ := F7.wd (by omega) (by omega)
  have h1 : INV μ1 p := h.a F7
  have eP : ∀ o : Int, p ≤ o ∧ o ≤ p + 10 → μ1 o = μ o := fun o h9 => F7.at (by omega) (by omega)
  have ea : ∀ o : Int, ¬ (6 ≤ o ∧ o ≤ 19) → μ1 o = μ o := fun o h9 => F7.at (by omega) (by omega)
  obtain ⟨_, μ2, e8, z8, rfl, F8, w8, hJ, f8⟩ := s_X8_best X p g w μ1 h1.cj h1.rj hg hw
  have e2 : ∀ o : Int, o ≤ 44 ∨ o = 46 ∨ o = 47 ∨ o = 62 ∨ o = 69 ∨ o = 70 → μ2 o = μ1 o := fun o h9 => F8.at (by omega) (by omega)
  have h2 : INV μ2 p := h1.b hJ e2 (fun k9 h9 => f8 k9 (by omega))
  have g0 : μ1 p = μ p := eP _ (by omega)
  have g3 : μ1 (p + 3) = μ (p + 3) := eP _ (by omega)
  have g4 : μ1 (p + 4) = μ (p + 4) := eP _ (by omega)
  have g5 : μ1 (p + 5) = μ (p + 5) := eP _ (by omega)
  have g7 : μ1 (p + 7) = μ (p + 7) := eP _ (by omega)
  have g8 : μ1 (p + 8) = μ (p + 8) := eP _ (by omega)
  have g9 : μ1 (p + 9) = μ (p + 9) := eP _ (by omega)
  have g10 : μ1 (p + 10) = μ (p + 10) := eP _ (by omega)
  simp only [ddt_cg eP, g0] at w8
  have hz : z8 = z7 := w8.trans w7.symm
  exact ⟨z7, μ1, μ2, e7, hz ▸ e8, p, h2⟩
theorem pr_ranked (X : AX) (h : INV μ p) (g : Int) (k : Int) (w : Int) (hg : -2147483648 ≤ g ∧ g ≤ 2147483647) (hk : -2147483648 ≤ k ∧ k ≤ 2147483647) (hw : -2147483648 ≤ w ∧ w ≤ 2147483647) : PR X M_X7_ranked M_X8_ranked [(2, 0), (0, g), (0, k), (0, w)] [(2, 45), (0, g), (0, k), (0, w), (9, 0)] μ := by
  have hp := h.cj.i.at
  obtain ⟨_, μ1, e7, z7, rfl, F7, w7⟩ := s_X7_ranked X p g k w μ h.cj hg hk hw
  have F7 : Fr 6 19 1 0 μ1 μ := F7.wd (by omega) (by omega)
  have h1 : INV μ1 p := h.a F7
  have eP : ∀ o : Int, p ≤ o ∧ o ≤ p + 10 → μ1 o = μ o := fun o h9 => F7.at (by omega) (by omega)
  have ea : ∀ o : Int, ¬ (6 ≤ o ∧ o ≤ 19) → μ1 o = μ o := fun o h9 => F7.at (by omega) (by omega)
  obtain ⟨_, μ2, e8, z8, rfl, F8, w8, hJ, f8⟩ := s_X8_ranked X p g k w μ1 h1.cj h1.rj hg hk hw
  have e2 : ∀ o : Int, o ≤ 44 ∨ o = 46 ∨ o = 47 ∨ o = 62 ∨ o = 69 ∨ o = 70 → μ2 o = μ1 o := fun o h9 => F8.at (by omega) (by omega)
  have h2 : INV μ2 p := h1.b hJ e2 (fun k9 h9 => f8 k9 (by omega))
  have g0 : μ1 p = μ p := eP _ (by omega)
  have g3 : μ1 (p + 3) = μ (p + 3) := eP _ (by omega)
  have g4 : μ1 (p + 4) = μ (p + 4) := eP _ (by omega)
  have g5 : μ1 (p + 5) = μ (p + 5) := eP _ (by omega)
  have g7 : μ1 (p + 7) = μ (p + 7) := eP _ (by omega)
  have g8 : μ1 (p + 8) = μ (p + 8) := eP _ (by omega)
  have g9 : μ1 (p + 9) = μ (p + 9) := eP _ (by omega)
  have g10 : μ1 (p + 10) = μ (p + 10) := eP _ (by omega)
  rw [ddt_cg eP, g0] at w8
  have hz : z8 = z7 := rnkP_u (fun q9 => gdt_ok h.cj.i h.cj.pg (h.cj.ld5 q9 h.cj.kn)) w8 w7
  exact ⟨z7, μ1, μ2, e7, hz ▸ e8, p, h2⟩
theorem pr_rank (X : AX) (h : INV μ p) (g : Int) (l : Int) (r : Int) (hg : -2147483648 ≤ g ∧ g ≤ 2147483647) (hl : -2147483648 ≤ l ∧ l ≤ 2147483647) (hr : -2147483648 ≤ r ∧ r ≤ 2147483647) : PR X M_X7_rank M_X8_rank [(2, 0), (0, g), (0, l), (0, r)] [(2, 45), (0, g), (0, l), (0, r), (9, 0)] μ := by
  have hp := h.cj.i.at
  obtain ⟨_, μ1, e7, z7, rfl, F7, w7⟩ := s_X7_rank X p g l r μ h.cj hg hl hr
  have F7 : Fr 6 19 1 0 μ1 μ := F7.wd (by omega) (by omega)
  have h1 : INV μ1 p := h.a F7
  have eP : ∀ o : Int, p ≤ o ∧ o ≤ p + 10 → μ1 o = μ o := fun o h9 => F7.at (by omega) (by omega)
  have ea : ∀ o : Int, ¬ (6 ≤ o ∧ o ≤ 19) → μ1 o = μ o := fun o h9 => F7.at (by omega) (by omega)
  obtain ⟨_, μ2, e8, z8, rfl, F8, w8, hJ, f8⟩ := s_X8_rank X p g l r μ1 h1.cj h1.rj hg hl hr
  have e2 : ∀ o : Int, o ≤ 44 ∨ o = 46 ∨ o = 47 ∨ o = 62 ∨ o = 69 ∨ o = 70 → μ2 o = μ1 o := fun o h9 => F8.at (by omega) (by omega)
  have h2 : INV μ2 p := h1.b hJ e2 (fun k9 h9 => f8 k9 (by omega))
  have g0 : μ1 p = μ p := eP _ (by omega)
  have g3 : μ1 (p + 3) = μ (p + 3) := eP _ (by omega)
  have g4 : μ1 (p + 4) = μ (p + 4) := eP _ (by omega)
  have g5 : μ1 (p + 5) = μ (p + 5) := eP _ (by omega)
  have g7 : μ1 (p + 7) = μ (p + 7) := eP _ (by omega)
  have g8 : μ1 (p + 8) = μ (p + 8) := eP _ (by omega)
  have g9 : μ1 (p + 9) = μ (p + 9) := eP _ (by omega)
  have g10 : μ1 (p + 10) = μ (p + 10) := eP _ (by omega)
  simp only [ddt_cg eP, g0] at w8
  have hz : z8 = z7 := w8.trans w7.symm
  exact ⟨z7, μ1, μ2, e7, hz ▸ e8, p, h2⟩
theorem pr_stem (X : AX) (h : INV μ p) (i : Int) (w : Int) (hi : -2147483648 ≤ i ∧ i ≤ 2147483647) (hw : -2147483648 ≤ w ∧ w ≤ 2147483647) : PR X M_X7_stem M_X8_stem [(2, 0), (0, i), (0, w), (9, 0), (9, 0), (9, 0), (9, 0), (9, 0)] [(2, 45), (0, i), (0, w), (9, 0), (9, 0), (9, 0)] μ := by
  have hp := h.cj.i.at
  obtain ⟨_, μ1, e7, z7, rfl, F7, w7⟩ := s_X7_stem X p i w μ h.cj hi hw
  have F7 : Fr 6 19 1 0 μ1 μ := F7.wd (by omega) (by omega)
  have h1 : INV μ1 p := h.a F7
  have eP : ∀ o : Int, p ≤ o ∧ o ≤ p + 10 → μ1 o = μ o := fun o h9 => F7.at (by omega) (by omega)
  have ea : ∀ o : Int, ¬ (6 ≤ o ∧ o ≤ 19) → μ1 o = μ o := fun o h9 => F7.at (by omega) (by omega)
  obtain ⟨_, μ2, e8, z8, rfl, F8, w8, hJ, f8⟩ := s_X8_stem X p i w μ1 h1.cj h1.rj hi hw
  have e2 : ∀ o : Int, o ≤ 44 ∨ o = 46 ∨ o = 47 ∨ o = 62 ∨ o = 69 ∨ o = 70 → μ2 o = μ1 o := fun o h9 => F8.at (by omega) (by omega)
  have h2 : INV μ2 p := h1.b hJ e2 (fun k9 h9 => f8 k9 (by omega))
  have g0 : μ1 p = μ p := eP _ (by omega)
  have g3 : μ1 (p + 3) = μ (p + 3) := eP _ (by omega)
  have g4 : μ1 (p + 4) = μ (p + 4) := eP _ (by omega)
  have g5 : μ1 (p + 5) = μ (p + 5) := eP _ (by omega)
  have g7 : μ1 (p + 7) = μ (p + 7) := eP _ (by omega)
  have g8 : μ1 (p + 8) = μ (p + 8) := eP _ (by omega)
  have g9 : μ1 (p + 9) = μ (p + 9) := eP _ (by omega)
  have g10 : μ1 (p + 10) = μ (p + 10) := eP _ (by omega)
  simp only [ddt_cg eP, g0, g8, g9] at w8
  have hz : z8 = z7 := w8.trans w7.symm
  exact ⟨z7, μ1, μ2, e7, hz ▸ e8, p, h2⟩
theorem pr_touch (X : AX) (h : INV μ p) (g : Int) (e : Int) (k : Int) (hg : -2147483648 ≤ g ∧ g ≤ 2147483647) (he : -2147483648 ≤ e ∧ e ≤ 2147483647) (hk : -2147483648 ≤ k ∧ k ≤ 2147483647) : PR X M_X7_touch M_X8_touch [(2, 0), (0, g), (0, e), (0, k), (9, 0), (9, 0), (9, 0)] [(2, 45), (0, g), (0, e), (0, k), (9, 0), (9, 0), (9, 0)] μ := by
  have hp := h.cj.i.at
  obtain ⟨_, μ1, e7, z7, rfl, F7, w7⟩ := s_X7_touch X p g e k μ h.cj hg he hk
  have F7 : Fr 6 19 1 0 μ1 μ := F7.wd (by omega) (by omega)
  have h1 : INV μ1 p := h.a F7
  have eP : ∀ o : Int, p ≤ o ∧ o ≤ p + 10 → μ1 o = μ o := fun o h9 => F7.at (by omega) (by omega)
  have ea : ∀ o : Int, ¬ (6 ≤ o ∧ o ≤ 19) → μ1 o = μ o := fun o h9 => F7.at (by omega) (by omega)
  obtain ⟨_, μ2, e8, z8, rfl, F8, w8, hJ, f8⟩ := s_X8_touch X p g e k μ1 h1.cj h1.rj hg he hk
  have e2 : ∀ o : Int, o ≤ 44 ∨ o = 46 ∨ o = 47 ∨ o = 62 ∨ o = 69 ∨ o = 70 → μ2 o = μ1 o := fun o h9 => F8.at (by omega) (by omega)
  have h2 : INV μ2 p := h1.b hJ e2 (fun k9 h9 => f8 k9 (by omega))
  have g0 : μ1 p = μ p := eP _ (by omega)
  have g3 : μ1 (p + 3) = μ (p + 3) := eP _ (by omega)
  have g4 : μ1 (p + 4) = μ (p + 4) := eP _ (by omega)
  have g5 : μ1 (p + 5) = μ (p + 5) := eP _ (by omega)
  have g7 : μ1 (p + 7) = μ (p + 7) := eP _ (by omega)
  have g8 : μ1 (p + 8) = μ (p + 8) := eP _ (by omega)
  have g9 : μ1 (p + 9) = μ (p + 9) := eP _ (by omega)
  have g10 : μ1 (p + 10) = μ (p + 10) := eP _ (by omega)
  simp only [ddt_cg eP, g0] at w8
  have hz : z8 = z7 := w8.trans w7.symm
  exact ⟨z7, μ1, μ2, e7, hz ▸ e8, p, h2⟩
theorem pr_beams (X : AX) (h : INV μ p) (i : Int) (w : Int) (hi : -2147483648 ≤ i ∧ i ≤ 2147483647) (hw : -2147483648 ≤ w ∧ w ≤ 2147483647) : PR X M_X7_beams M_X8_beams [(2, 0), (0, i), (0, w)] [(2, 45), (0, i), (0, w), (9, 0), (9, 0), (9, 0), (9, 0), (9, 0)] μ := by
  have hp := h.cj.i.at
  obtain ⟨_, μ1, e7, rfl, e9⟩ := s_X7_beams X p i w μ h.cj hi hw
  have h1 : INV μ1 p := by rw [e9]; exact h
  have eP : ∀ o : Int, p ≤ o ∧ o ≤ p + 10 → μ1 o = μ o := fun o _ => congrFun e9 o
  have ea : ∀ o : Int, ¬ (6 ≤ o ∧ o ≤ 19) → μ1 o = μ o := fun o _ => congrFun e9 o
  obtain ⟨_, μ2, e8, z8, rfl, F8, w8, hJ, f8⟩ := s_X8_beams X p i w μ1 h1.cj h1.rj hi hw
  have e2 : ∀ o : Int, o ≤ 44 ∨ o = 46 ∨ o = 47 ∨ o = 62 ∨ o = 69 ∨ o = 70 → μ2 o = μ1 o := fun o h9 => F8.at (by omega) (by omega)
  have h2 : INV μ2 p := h1.b hJ e2 (fun k9 h9 => f8 k9 (by omega))
  have g0 : μ1 p = μ p := eP _ (by omega)
  have g3 : μ1 (p + 3) = μ (p + 3) := eP _ (by omega)
  have g4 : μ1 (p + 4) = μ (p + 4) := eP _ (by omega)
  have g5 : μ1 (p + 5) = μ (p + 5) := eP _ (by omega)
  have g7 : μ1 (p + 7) = μ (p + 7) := eP _ (by omega)
  have g8 : μ1 (p + 8) = μ (p + 8) := eP _ (by omega)
  have g9 : μ1 (p + 9) = μ (p + 9) := eP _ (by omega)
  have g10 : μ1 (p + 10) = μ (p + 10) := eP _ (by omega)
  simp only [bmA_cg eP, g0, g8] at w8
  exact ⟨_, μ1, μ2, e7, w8 ▸ e8, p, h2⟩
theorem pr_total (X : AX) (h : INV μ p) (w : Int) (hw : -2147483648 ≤ w ∧ w ≤ 2147483647) : PR X M_X7_total M_X8_total [(2, 0), (0, w)] [(2, 45), (0, w)] μ := by
  have hp := h.cj.i.at
  obtain ⟨_, μ1, e7, z7, rfl, F7, w7⟩ := s_X7_total X p w μ h.cj hw
  have F7 : Fr 6 19 1 0 μ1 μ := F7.wd (by omega) (by omega)
  have h1 : INV μ1 p := h.a F7
  have eP : ∀ o : Int, p ≤ o ∧ o ≤ p + 10 → μ1 o = μ o := fun o h9 => F7.at (by omega) (by omega)
  have ea : ∀ o : Int, ¬ (6 ≤ o ∧ o ≤ 19) → μ1 o = μ o := fun o h9 => F7.at (by omega) (by omega)
  obtain ⟨_, μ2, e8, z8, rfl, F8, w8, hJ, f8⟩ := s_X8_total X p w μ1 h1.cj h1.rj hw
  have e2 : ∀ o : Int, o ≤ 44 ∨ o = 46 ∨ o = 47 ∨ o = 62 ∨ o = 69 ∨ o = 70 → μ2 o = μ1 o := fun o h9 => F8.at (by omega) (by omega)
  have h2 : INV μ2 p := h1.b hJ e2 (fun k9 h9 => f8 k9 (by omega))
  have g0 : μ1 p = μ p := eP _ (by omega)
  have g3 : μ1 (p + 3) = μ (p + 3) := eP _ (by omega)
  have g4 : μ1 (p + 4) = μ (p + 4) := eP _ (by omega)
  have g5 : μ1 (p + 5) = μ (p + 5) := eP _ (by omega)
  have g7 : μ1 (p + 7) = μ (p + 7) := eP _ (by omega)
  have g8 : μ1 (p + 8) = μ (p + 8) := eP _ (by omega)
  have g9 : μ1 (p + 9) = μ (p + 9) := eP _ (by omega)
  have g10 : μ1 (p + 10) = μ (p + 10) := eP _ (by omega)
  simp only [ddt_cg eP, g0] at w8
  have hz : z8 = z7 := w8.trans w7.symm
  exact ⟨z7, μ1, μ2, e7, hz ▸ e8, p, h2⟩
theorem pr_ifPut (X : AX) (h : INV μ p) (i : Int) (q : Int) (w : Int) (hi : -2147483648 ≤ i ∧ i ≤ 2147483647) (hq : -2147483648 ≤ q ∧ q ≤ 2147483647) (hw : -2147483648 ≤ w ∧ w ≤ 2147483647) : PR X M_X7_ifPut M_X8_ifPut [(2, 0), (0, i), (0, q), (0, w)] [(2, 45), (0, i), (0, q), (0, w), (9, 0)] μ := by
  have hp := h.cj.i.at
  obtain ⟨_, μ1, e7, z7, rfl, F7, w7⟩ := s_X7_ifPut X p i q w μ h.cj hi hq hw
  have F7 : Fr 6 19 1 0 μ1 μ := F7.wd (by omega) (by omega)
  have h1 : INV μ1 p := h.a F7
  have eP : ∀ o : Int, p ≤ o ∧ o ≤ p + 10 → μ1 o = μ o := fun o h9 => F7.at (by omega) (by omega)
  have ea : ∀ o : Int, ¬ (6 ≤ o ∧ o ≤ 19) → μ1 o = μ o := fun o h9 => F7.at (by omega) (by omega)
  obtain ⟨_, μ2, e8, z8, rfl, F8, w8, hJ, f8⟩ := s_X8_ifPut X p i q w μ1 h1.cj h1.rj hi hq hw
  have e2 : ∀ o : Int, o ≤ 44 ∨ o = 46 ∨ o = 47 ∨ o = 62 ∨ o = 69 ∨ o = 70 → μ2 o = μ1 o := fun o h9 => F8.at (by omega) (by omega)
  have h2 : INV μ2 p := h1.b hJ e2 (fun k9 h9 => f8 k9 (by omega))
  have g0 : μ1 p = μ p := eP _ (by omega)
  have g3 : μ1 (p + 3) = μ (p + 3) := eP _ (by omega)
  have g4 : μ1 (p + 4) = μ (p + 4) := eP _ (by omega)
  have g5 : μ1 (p + 5) = μ (p + 5) := eP _ (by omega)
  have g7 : μ1 (p + 7) = μ (p + 7) := eP _ (by omega)
  have g8 : μ1 (p + 8) = μ (p + 8) := eP _ (by omega)
  have g9 : μ1 (p + 9) = μ (p + 9) := eP _ (by omega)
  have g10 : μ1 (p + 10) = μ (p + 10) := eP _ (by omega)
  simp only [ddP_cg eP, g0, g8] at w8
  have hz : z8 = z7 := w8.trans w7.symm
  exact ⟨z7, μ1, μ2, e7, hz ▸ e8, p, h2⟩
theorem pr_wish (X : AX) (h : INV μ p) (i : Int) (hi : -2147483648 ≤ i ∧ i ≤ 2147483647) : PR X M_X7_wish M_X8_wish [(2, 0), (0, i), (9, 0), (9, 0), (9, 0), (9, 0), (9, 0), (9, 0), (9, 0)] [(2, 45), (0, i), (9, 0), (9, 0), (9, 0), (9, 0), (9, 0)] μ := by
  have hp := h.cj.i.at
  obtain ⟨_, μ1, e7, z7, rfl, F7, w7⟩ := s_X7_wish X p i μ h.cj hi
  have F7 : Fr 6 19 1 0 μ1 μ := F7.wd (by omega) (by omega)
  have h1 : INV μ1 p := h.a F7
  have eP : ∀ o : Int, p ≤ o ∧ o ≤ p + 10 → μ1 o = μ o := fun o h9 => F7.at (by omega) (by omega)
  have ea : ∀ o : Int, ¬ (6 ≤ o ∧ o ≤ 19) → μ1 o = μ o := fun o h9 => F7.at (by omega) (by omega)
  obtain ⟨_, μ2, e8, z8, rfl, F8, w8, hJ, f8⟩ := s_X8_wish X p i μ1 h1.cj h1.rj hi
  have e2 : ∀ o : Int, o ≤ 44 ∨ o = 46 ∨ o = 47 ∨ o = 62 ∨ o = 69 ∨ o = 70 → μ2 o = μ1 o := fun o h9 => F8.at (by omega) (by omega)
  have h2 : INV μ2 p := h1.b hJ e2 (fun k9 h9 => f8 k9 (by omega))
  have g0 : μ1 p = μ p := eP _ (by omega)
  have g3 : μ1 (p + 3) = μ (p + 3) := eP _ (by omega)
  have g4 : μ1 (p + 4) = μ (p + 4) := eP _ (by omega)
  have g5 : μ1 (p + 5) = μ (p + 5) := eP _ (by omega)
  have g7 : μ1 (p + 7) = μ (p + 7) := eP _ (by omega)
  have g8 : μ1 (p + 8) = μ (p + 8) := eP _ (by omega)
  have g9 : μ1 (p + 9) = μ (p + 9) := eP _ (by omega)
  have g10 : μ1 (p + 10) = μ (p + 10) := eP _ (by omega)
  rw [wiR_cg eP, g0, g8] at w8
  have hz : z8 = z7 := by rcases w8 with ⟨q1, q2⟩ | ⟨q1, q2⟩; (rcases w7 with ⟨q3, q4⟩ | ⟨q3, q4⟩; exact wiR_u q2 q4; exact absurd q1 q3); (rcases w7 with ⟨q3, q4⟩ | ⟨q3, q4⟩; exact absurd q3 q1; exact q2.trans q4.symm)
  exact ⟨z7, μ1, μ2, e7, hz ▸ e8, p, h2⟩
theorem pr_ifShifted (X : AX) (h : INV μ p) (t : Int) (w : Int) (ht : -2147483648 ≤ t ∧ t ≤ 2147483647) (hw : -2147483648 ≤ w ∧ w ≤ 2147483647) : PR X M_X7_ifShifted M_X8_ifShifted [(2, 0), (0, t), (0, w)] [(2, 45), (0, t), (0, w), (9, 0)] μ := by
  have hp := h.cj.i.at
  obtain ⟨_, μ1, e7, z7, rfl, F7, w7⟩ := s_X7_ifShifted X p t w μ h.cj ht hw
  have F7 : Fr 6 19 1 0 μ1 μ := F7.wd (by omega) (by omega)
  have h1 : INV μ1 p := h.a F7
  have eP : ∀ o : Int, p ≤ o ∧ o ≤ p + 10 → μ1 o = μ o := fun o h9 => F7.at (by omega) (by omega)
  have ea : ∀ o : Int, ¬ (6 ≤ o ∧ o ≤ 19) → μ1 o = μ o := fun o h9 => F7.at (by omega) (by omega)
  obtain ⟨_, μ2, e8, z8, rfl, F8, w8, hJ, f8⟩ := s_X8_ifShifted X p t w μ1 h1.cj h1.rj ht hw
  have e2 : ∀ o : Int, o ≤ 44 ∨ o = 46 ∨ o = 47 ∨ o = 62 ∨ o = 69 ∨ o = 70 → μ2 o = μ1 o := fun o h9 => F8.at (by omega) (by omega)
  have h2 : INV μ2 p := h1.b hJ e2 (fun k9 h9 => f8 k9 (by omega))
  have g0 : μ1 p = μ p := eP _ (by omega)
  have g3 : μ1 (p + 3) = μ (p + 3) := eP _ (by omega)
  have g4 : μ1 (p + 4) = μ (p + 4) := eP _ (by omega)
  have g5 : μ1 (p + 5) = μ (p + 5) := eP _ (by omega)
  have g7 : μ1 (p + 7) = μ (p + 7) := eP _ (by omega)
  have g8 : μ1 (p + 8) = μ (p + 8) := eP _ (by omega)
  have g9 : μ1 (p + 9) = μ (p + 9) := eP _ (by omega)
  have g10 : μ1 (p + 10) = μ (p + 10) := eP _ (by omega)
  simp only [ddS_cg eP, shB_cg eP, g0] at w8
  have hz : z8 = z7 := w8.trans w7.symm
  exact ⟨z7, μ1, μ2, e7, hz ▸ e8, p, h2⟩
theorem pr_shift (X : AX) (h : INV μ p) : PR X M_X7_shift M_X8_shift [(2, 0), (9, 0), (9, 0), (9, 0), (9, 0), (9, 0), (9, 0)] [(2, 45), (9, 0), (9, 0), (9, 0), (9, 0), (9, 0), (9, 0)] μ := by
  have hp := h.cj.i.at
  obtain ⟨_, μ1, e7, z7, rfl, F7, w7⟩ := s_X7_shift X p μ h.cj
  have F7 : Fr 6 19 1 0 μ1 μ := F7.wd (by omega) (by omega)
  have h1 : INV μ1 p := h.a F7
  have eP : ∀ o : Int, p ≤ o ∧ o ≤ p + 10 → μ1 o = μ o := fun o h9 => F7.at (by omega) (by omega)
  have ea : ∀ o : Int, ¬ (6 ≤ o ∧ o ≤ 19) → μ1 o = μ o := fun o h9 => F7.at (by omega) (by omega)
  obtain ⟨_, μ2, e8, z8, rfl, F8, w8, hJ, f8⟩ := s_X8_shift X p μ1 h1.cj h1.rj
  have e2 : ∀ o : Int, o ≤ 44 ∨ o = 46 ∨ o = 47 ∨ o = 62 ∨ o = 69 ∨ o = 70 → μ2 o = μ1 o := fun o h9 => F8.at (by omega) (by omega)
  have h2 : INV μ2 p := h1.b hJ e2 (fun k9 h9 => f8 k9 (by omega))
  have g0 : μ1 p = μ p := eP _ (by omega)
  have g3 : μ1 (p + 3) = μ (p + 3) := eP _ (by omega)
  have g4 : μ1 (p + 4) = μ (p + 4) := eP _ (by omega)
  have g5 : μ1 (p + 5) = μ (p + 5) := eP _ (by omega)
  have g7 : μ1 (p + 7) = μ (p + 7) := eP _ (by omega)
  have g8 : μ1 (p + 8) = μ (p + 8) := eP _ (by omega)
  have g9 : μ1 (p + 9) = μ (p + 9) := eP _ (by omega)
  have g10 : μ1 (p + 10) = μ (p + 10) := eP _ (by omega)
  rw [shR_cg eP, g0] at w8
  have hz : z8 = z7 := by rcases w8 with ⟨q1, q2⟩ | ⟨q1, q2⟩; (rcases w7 with ⟨q3, q4⟩ | ⟨q3, q4⟩; exact q2.trans q4.symm; exact absurd q1 q3); (rcases w7 with ⟨q3, q4⟩ | ⟨q3, q4⟩; exact absurd q3 q1; exact shR_u q2 q4)
  exact ⟨z7, μ1, μ2, e7, hz ▸ e8, p, h2⟩
theorem pr_mirrored (X : AX) (h : INV μ p) (g : Int) (hg : -2147483648 ≤ g ∧ g ≤ 2147483647) : PR X M_X7_mirrored M_X8_mirrored [(2, 0), (0, g), (9, 0), (9, 0), (9, 0), (9, 0), (9, 0)] [(2, 45), (0, g), (9, 0), (9, 0), (9, 0), (9, 0)] μ := by
  have hp := h.cj.i.at
  obtain ⟨_, μ1, e7, z7, rfl, F7, w7⟩ := s_X7_mirrored X p g μ h.cj hg
  have F7 : Fr 6 19 1 0 μ1 μ := F7.wd (by omega) (by omega)
  have h1 : INV μ1 p := h.a F7
  have eP : ∀ o : Int, p ≤ o ∧ o ≤ p + 10 → μ1 o = μ o := fun o h9 => F7.at (by omega) (by omega)
  have ea : ∀ o : Int, ¬ (6 ≤ o ∧ o ≤ 19) → μ1 o = μ o := fun o h9 => F7.at (by omega) (by omega)
  obtain ⟨_, μ2, e8, z8, rfl, F8, w8, hJ, f8⟩ := s_X8_mirrored X p g μ1 h1.cj h1.rj hg
  have e2 : ∀ o : Int, o ≤ 44 ∨ o = 46 ∨ o = 47 ∨ o = 62 ∨ o = 69 ∨ o = 70 → μ2 o = μ1 o := fun o h9 => F8.at (by omega) (by omega)
  have h2 : INV μ2 p := h1.b hJ e2 (fun k9 h9 => f8 k9 (by omega))
  have g0 : μ1 p = μ p := eP _ (by omega)
  have g3 : μ1 (p + 3) = μ (p + 3) := eP _ (by omega)
  have g4 : μ1 (p + 4) = μ (p + 4) := eP _ (by omega)
  have g5 : μ1 (p + 5) = μ (p + 5) := eP _ (by omega)
  have g7 : μ1 (p + 7) = μ (p + 7) := eP _ (by omega)
  have g8 : μ1 (p + 8) = μ (p + 8) := eP _ (by omega)
  have g9 : μ1 (p + 9) = μ (p + 9) := eP _ (by omega)
  have g10 : μ1 (p + 10) = μ (p + 10) := eP _ (by omega)
  simp only [ddt_cg eP, ddM_cg eP, g0] at w8
  have hz : z8 = z7 := w8.trans w7.symm
  exact ⟨z7, μ1, μ2, e7, hz ▸ e8, p, h2⟩
theorem pr_ifKnee (X : AX) (h : INV μ p) (n : Int) (w : Int) (hn : -2147483648 ≤ n ∧ n ≤ 2147483647) (hw : -2147483648 ≤ w ∧ w ≤ 2147483647) : PR X M_X7_ifKnee M_X8_ifKnee [(2, 0), (0, n), (0, w)] [(2, 45), (0, n), (0, w), (9, 0)] μ := by
  have hp := h.cj.i.at
  obtain ⟨_, μ1, e7, z7, rfl, F7, w7⟩ := s_X7_ifKnee X p n w μ h.cj hn hw
  have F7 : Fr 6 19 1 0 μ1 μ := F7.wd (by omega) (by omega)
  have h1 : INV μ1 p := h.a F7
  have eP : ∀ o : Int, p ≤ o ∧ o ≤ p + 10 → μ1 o = μ o := fun o h9 => F7.at (by omega) (by omega)
  have ea : ∀ o : Int, ¬ (6 ≤ o ∧ o ≤ 19) → μ1 o = μ o := fun o h9 => F7.at (by omega) (by omega)
  obtain ⟨_, μ2, e8, z8, rfl, F8, w8, hJ, f8⟩ := s_X8_ifKnee X p n w μ1 h1.cj h1.rj hn hw
  have e2 : ∀ o : Int, o ≤ 44 ∨ o = 46 ∨ o = 47 ∨ o = 62 ∨ o = 69 ∨ o = 70 → μ2 o = μ1 o := fun o h9 => F8.at (by omega) (by omega)
  have h2 : INV μ2 p := h1.b hJ e2 (fun k9 h9 => f8 k9 (by omega))
  have g0 : μ1 p = μ p := eP _ (by omega)
  have g3 : μ1 (p + 3) = μ (p + 3) := eP _ (by omega)
  have g4 : μ1 (p + 4) = μ (p + 4) := eP _ (by omega)
  have g5 : μ1 (p + 5) = μ (p + 5) := eP _ (by omega)
  have g7 : μ1 (p + 7) = μ (p + 7) := eP _ (by omega)
  have g8 : μ1 (p + 8) = μ (p + 8) := eP _ (by omega)
  have g9 : μ1 (p + 9) = μ (p + 9) := eP _ (by omega)
  have g10 : μ1 (p + 10) = μ (p + 10) := eP _ (by omega)
  simp only [ddt_cg eP, g0] at w8
  have hz : z8 = z7 := w8.trans w7.symm
  exact ⟨z7, μ1, μ2, e7, hz ▸ e8, p, h2⟩
theorem pr_ifParts (X : AX) (h : INV μ p) (n : Int) (hn : -2147483648 ≤ n ∧ n ≤ 2147483647) : PR X M_X7_ifParts M_X8_ifParts [(2, 0), (0, n)] [(2, 45), (0, n)] μ := by
  have hp := h.cj.i.at
  obtain ⟨_, μ1, e7, rfl, e9⟩ := s_X7_ifParts X p n μ h.cj hn
  have h1 : INV μ1 p := by rw [e9]; exact h
  have eP : ∀ o : Int, p ≤ o ∧ o ≤ p + 10 → μ1 o = μ o := fun o _ => congrFun e9 o
  have ea : ∀ o : Int, ¬ (6 ≤ o ∧ o ≤ 19) → μ1 o = μ o := fun o _ => congrFun e9 o
  obtain ⟨_, μ2, e8, z8, rfl, F8, w8, hJ, f8⟩ := s_X8_ifParts X p n μ1 h1.cj h1.rj h1.rx hn
  have e2 : ∀ o : Int, o ≤ 44 ∨ o = 46 ∨ o = 47 ∨ o = 62 ∨ o = 69 ∨ o = 70 → μ2 o = μ1 o := fun o h9 => F8.at (by omega) (by omega)
  have h2 : INV μ2 p := h1.b hJ e2 (fun k9 h9 => f8 k9 (by omega))
  have g0 : μ1 p = μ p := eP _ (by omega)
  have g3 : μ1 (p + 3) = μ (p + 3) := eP _ (by omega)
  have g4 : μ1 (p + 4) = μ (p + 4) := eP _ (by omega)
  have g5 : μ1 (p + 5) = μ (p + 5) := eP _ (by omega)
  have g7 : μ1 (p + 7) = μ (p + 7) := eP _ (by omega)
  have g8 : μ1 (p + 8) = μ (p + 8) := eP _ (by omega)
  have g9 : μ1 (p + 9) = μ (p + 9) := eP _ (by omega)
  have g10 : μ1 (p + 10) = μ (p + 10) := eP _ (by omega)
  simp only [segf_cg eP, g0] at w8
  exact ⟨_, μ1, μ2, e7, w8 ▸ e8, p, h2⟩
theorem pr_alone (X : AX) (h : INV μ p) (w : Int) (hw : -2147483648 ≤ w ∧ w ≤ 2147483647) : PR X M_X7_alone M_X8_alone [(2, 0), (0, w), (9, 0), (9, 0), (9, 0)] [(2, 45), (0, w), (9, 0), (9, 0), (9, 0)] μ := by
  have hp := h.cj.i.at
  obtain ⟨_, μ1, e7, rfl, e9⟩ := s_X7_alone X p w μ h.cj hw
  have h1 : INV μ1 p := by rw [e9]; exact h
  have eP : ∀ o : Int, p ≤ o ∧ o ≤ p + 10 → μ1 o = μ o := fun o _ => congrFun e9 o
  have ea : ∀ o : Int, ¬ (6 ≤ o ∧ o ≤ 19) → μ1 o = μ o := fun o _ => congrFun e9 o
  obtain ⟨_, μ2, e8, z8, rfl, F8, w8, hJ, f8⟩ := s_X8_alone X p w μ1 h1.cj h1.rj hw
  have e2 : ∀ o : Int, o ≤ 44 ∨ o = 46 ∨ o = 47 ∨ o = 62 ∨ o = 69 ∨ o = 70 → μ2 o = μ1 o := fun o h9 => F8.at (by omega) (by omega)
  have h2 : INV μ2 p := h1.b hJ e2 (fun k9 h9 => f8 k9 (by omega))
  have g0 : μ1 p = μ p := eP _ (by omega)
  have g3 : μ1 (p + 3) = μ (p + 3) := eP _ (by omega)
  have g4 : μ1 (p + 4) = μ (p + 4) := eP _ (by omega)
  have g5 : μ1 (p + 5) = μ (p + 5) := eP _ (by omega)
  have g7 : μ1 (p + 7) = μ (p + 7) := eP _ (by omega)
  have g8 : μ1 (p + 8) = μ (p + 8) := eP _ (by omega)
  have g9 : μ1 (p + 9) = μ (p + 9) := eP _ (by omega)
  have g10 : μ1 (p + 10) = μ (p + 10) := eP _ (by omega)
  simp only [bmzf_cg eP, g0, g8] at w8
  exact ⟨_, μ1, μ2, e7, w8 ▸ e8, p, h2⟩
theorem pr_stretches (X : AX) (h : INV μ p) (g : Int) (k : Int) (hg : -2147483648 ≤ g ∧ g ≤ 2147483647) (hk : -2147483648 ≤ k ∧ k ≤ 2147483647) : PR X M_X7_stretches M_X8_stretches [(2, 0), (0, g), (0, k), (9, 0), (9, 0)] [(2, 45), (0, g), (0, k), (9, 0)] μ := by
  have hp := h.cj.i.at
  obtain ⟨_, μ1, e7, rfl, e9⟩ := s_X7_stretches X p g k μ h.cj hg hk
  have h1 : INV μ1 p := by rw [e9]; exact h
  have eP : ∀ o : Int, p ≤ o ∧ o ≤ p + 10 → μ1 o = μ o := fun o _ => congrFun e9 o
  have ea : ∀ o : Int, ¬ (6 ≤ o ∧ o ≤ 19) → μ1 o = μ o := fun o _ => congrFun e9 o
  obtain ⟨_, μ2, e8, z8, rfl, F8, w8, hJ, f8⟩ := s_X8_stretches X p g k μ1 h1.cj h1.rj hg hk
  have e2 : ∀ o : Int, o ≤ 44 ∨ o = 46 ∨ o = 47 ∨ o = 62 ∨ o = 69 ∨ o = 70 → μ2 o = μ1 o := fun o h9 => F8.at (by omega) (by omega)
  have h2 : INV μ2 p := h1.b hJ e2 (fun k9 h9 => f8 k9 (by omega))
  have g0 : μ1 p = μ p := eP _ (by omega)
  have g3 : μ1 (p + 3) = μ (p + 3) := eP _ (by omega)
  have g4 : μ1 (p + 4) = μ (p + 4) := eP _ (by omega)
  have g5 : μ1 (p + 5) = μ (p + 5) := eP _ (by omega)
  have g7 : μ1 (p + 7) = μ (p + 7) := eP _ (by omega)
  have g8 : μ1 (p + 8) = μ (p + 8) := eP _ (by omega)
  have g9 : μ1 (p + 9) = μ (p + 9) := eP _ (by omega)
  have g10 : μ1 (p + 10) = μ (p + 10) := eP _ (by omega)
  simp only [stN_cg eP, g0, g9, g10] at w8
  exact ⟨_, μ1, μ2, e7, w8 ▸ e8, p, h2⟩
theorem pr_stretch (X : AX) (h : INV μ p) (g : Int) (k : Int) (n : Int) (w : Int) (hg : -2147483648 ≤ g ∧ g ≤ 2147483647) (hk : -2147483648 ≤ k ∧ k ≤ 2147483647) (hn : -2147483648 ≤ n ∧ n ≤ 2147483647) (hw : -2147483648 ≤ w ∧ w ≤ 2147483647) : PR X M_X7_stretch M_X8_stretch [(2, 0), (0, g), (0, k), (0, n), (0, w), (9, 0), (9, 0)] [(2, 45), (0, g), (0, k), (0, n), (0, w), (9, 0), (9, 0)] μ := by
  have hp := h.cj.i.at
  obtain ⟨_, μ1, e7, z7, rfl, F7, w7⟩ := s_X7_stretch X p g k n w μ h.cj hg hk hn hw
  have F7 : Fr 6 19 1 0 μ1 μ := F7.wd (by omega) (by omega)
  have h1 : INV μ1 p := h.a F7
  have eP : ∀ o : Int, p ≤ o ∧ o ≤ p + 10 → μ1 o = μ o := fun o h9 => F7.at (by omega) (by omega)
  have ea : ∀ o : Int, ¬ (6 ≤ o ∧ o ≤ 19) → μ1 o = μ o := fun o h9 => F7.at (by omega) (by omega)
  obtain ⟨_, μ2, e8, z8, rfl, F8, w8, hJ, f8⟩ := s_X8_stretch X p g k n w μ1 h1.cj h1.rj hg hk hn hw
  have e2 : ∀ o : Int, o ≤ 44 ∨ o = 46 ∨ o = 47 ∨ o = 62 ∨ o = 69 ∨ o = 70 → μ2 o = μ1 o := fun o h9 => F8.at (by omega) (by omega)
  have h2 : INV μ2 p := h1.b hJ e2 (fun k9 h9 => f8 k9 (by omega))
  have g0 : μ1 p = μ p := eP _ (by omega)
  have g3 : μ1 (p + 3) = μ (p + 3) := eP _ (by omega)
  have g4 : μ1 (p + 4) = μ (p + 4) := eP _ (by omega)
  have g5 : μ1 (p + 5) = μ (p + 5) := eP _ (by omega)
  have g7 : μ1 (p + 7) = μ (p + 7) := eP _ (by omega)
  have g8 : μ1 (p + 8) = μ (p + 8) := eP _ (by omega)
  have g9 : μ1 (p + 9) = μ (p + 9) := eP _ (by omega)
  have g10 : μ1 (p + 10) = μ (p + 10) := eP _ (by omega)
  rw [stP_cg eP, g0, g9, g10] at w8
  have hz : z8 = z7 := by rcases w8 with ⟨q1, q2⟩ | ⟨q1, q2⟩; (rcases w7 with ⟨q3, q4⟩ | ⟨q3, q4⟩; exact stP_u q2 q4; exact absurd q1 q3); (rcases w7 with ⟨q3, q4⟩ | ⟨q3, q4⟩; exact absurd q3 q1; exact q2.trans q4.symm)
  exact ⟨z7, μ1, μ2, e7, hz ▸ e8, p, h2⟩
theorem pr_level (X : AX) (h : INV μ p) (g : Int) (w : Int) (hg : -2147483648 ≤ g ∧ g ≤ 2147483647) (hw : -2147483648 ≤ w ∧ w ≤ 2147483647) : PR X M_X7_level M_X8_level [(2, 0), (0, g), (0, w), (9, 0), (9, 0)] [(2, 45), (0, g), (0, w), (9, 0), (9, 0)] μ := by
  have hp := h.cj.i.at
  obtain ⟨_, μ1, e7, z7, rfl, F7, w7⟩ := s_X7_level X p g w μ h.cj hg hw
  have F7 : Fr 6 19 1 0 μ1 μ := F7.wd (by omega) (by omega)
  have h1 : INV μ1 p := h.a F7
  have eP : ∀ o : Int, p ≤ o ∧ o ≤ p + 10 → μ1 o = μ o := fun o h9 => F7.at (by omega) (by omega)
  have ea : ∀ o : Int, ¬ (6 ≤ o ∧ o ≤ 19) → μ1 o = μ o := fun o h9 => F7.at (by omega) (by omega)
  obtain ⟨_, μ2, e8, z8, rfl, F8, w8, hJ, f8⟩ := s_X8_level X p g w μ1 h1.cj h1.rj hg hw
  have e2 : ∀ o : Int, o ≤ 44 ∨ o = 46 ∨ o = 47 ∨ o = 62 ∨ o = 69 ∨ o = 70 → μ2 o = μ1 o := fun o h9 => F8.at (by omega) (by omega)
  have h2 : INV μ2 p := h1.b hJ e2 (fun k9 h9 => f8 k9 (by omega))
  have g0 : μ1 p = μ p := eP _ (by omega)
  have g3 : μ1 (p + 3) = μ (p + 3) := eP _ (by omega)
  have g4 : μ1 (p + 4) = μ (p + 4) := eP _ (by omega)
  have g5 : μ1 (p + 5) = μ (p + 5) := eP _ (by omega)
  have g7 : μ1 (p + 7) = μ (p + 7) := eP _ (by omega)
  have g8 : μ1 (p + 8) = μ (p + 8) := eP _ (by omega)
  have g9 : μ1 (p + 9) = μ (p + 9) := eP _ (by omega)
  have g10 : μ1 (p + 10) = μ (p + 10) := eP _ (by omega)
  simp only [ddt_cg eP, g0] at w8
  have hz : z8 = z7 := w8.trans w7.symm
  exact ⟨z7, μ1, μ2, e7, hz ▸ e8, p, h2⟩
theorem pr_ifCut (X : AX) (h : INV μ p) (g : Int) (k : Int) (hg : -2147483648 ≤ g ∧ g ≤ 2147483647) (hk : -2147483648 ≤ k ∧ k ≤ 2147483647) : PR X M_X7_ifCut M_X8_ifCut [(2, 0), (0, g), (0, k)] [(2, 45), (0, g), (0, k)] μ := by
  have hp := h.cj.i.at
  obtain ⟨_, μ1, e7, z7, rfl, F7, w7⟩ := s_X7_ifCut X p g k μ h.cj hg hk
  have F7 : Fr 6 19 1 0 μ1 μ := F7.wd (by omega) (by omega)
  have h1 : INV μ1 p := h.a F7
  have eP : ∀ o : Int, p ≤ o ∧ o ≤ p + 10 → μ1 o = μ o := fun o h9 => F7.at (by omega) (by omega)
  have ea : ∀ o : Int, ¬ (6 ≤ o ∧ o ≤ 19) → μ1 o = μ o := fun o h9 => F7.at (by omega) (by omega)
  obtain ⟨_, μ2, e8, z8, rfl, F8, w8, hJ, f8⟩ := s_X8_ifCut X p g k μ1 h1.cj h1.rj hg hk
  have e2 : ∀ o : Int, o ≤ 44 ∨ o = 46 ∨ o = 47 ∨ o = 62 ∨ o = 69 ∨ o = 70 → μ2 o = μ1 o := fun o h9 => F8.at (by omega) (by omega)
  have h2 : INV μ2 p := h1.b hJ e2 (fun k9 h9 => f8 k9 (by omega))
  have g0 : μ1 p = μ p := eP _ (by omega)
  have g3 : μ1 (p + 3) = μ (p + 3) := eP _ (by omega)
  have g4 : μ1 (p + 4) = μ (p + 4) := eP _ (by omega)
  have g5 : μ1 (p + 5) = μ (p + 5) := eP _ (by omega)
  have g7 : μ1 (p + 7) = μ (p + 7) := eP _ (by omega)
  have g8 : μ1 (p + 8) = μ (p + 8) := eP _ (by omega)
  have g9 : μ1 (p + 9) = μ (p + 9) := eP _ (by omega)
  have g10 : μ1 (p + 10) = μ (p + 10) := eP _ (by omega)
  simp only [uglGf_cg eP, g0, g9, g10] at w8
  have hz : z8 = z7 := w8.trans w7.symm
  exact ⟨z7, μ1, μ2, e7, hz ▸ e8, p, h2⟩
theorem pr_cut (X : AX) (h : INV μ p) (g : Int) (hg : -2147483648 ≤ g ∧ g ≤ 2147483647) : PR X M_X7_cut M_X8_cut [(2, 0), (0, g), (9, 0), (9, 0), (9, 0), (9, 0)] [(2, 45), (0, g), (9, 0), (9, 0), (9, 0), (9, 0)] μ := by
  have hp := h.cj.i.at
  obtain ⟨_, μ1, e7, z7, rfl, F7, w7⟩ := s_X7_cut X p g μ h.cj hg
  have F7 : Fr 6 19 1 0 μ1 μ := F7.wd (by omega) (by omega)
  have h1 : INV μ1 p := h.a F7
  have eP : ∀ o : Int, p ≤ o ∧ o ≤ p + 10 → μ1 o = μ o := fun o h9 => F7.at (by omega) (by omega)
  have ea : ∀ o : Int, ¬ (6 ≤ o ∧ o ≤ 19) → μ1 o = μ o := fun o h9 => F7.at (by omega) (by omega)
  obtain ⟨_, μ2, e8, z8, rfl, F8, w8, hJ, f8⟩ := s_X8_cut X p g μ1 h1.cj h1.rj hg
  have e2 : ∀ o : Int, o ≤ 44 ∨ o = 46 ∨ o = 47 ∨ o = 62 ∨ o = 69 ∨ o = 70 → μ2 o = μ1 o := fun o h9 => F8.at (by omega) (by omega)
  have h2 : INV μ2 p := h1.b hJ e2 (fun k9 h9 => f8 k9 (by omega))
  have g0 : μ1 p = μ p := eP _ (by omega)
  have g3 : μ1 (p + 3) = μ (p + 3) := eP _ (by omega)
  have g4 : μ1 (p + 4) = μ (p + 4) := eP _ (by omega)
  have g5 : μ1 (p + 5) = μ (p + 5) := eP _ (by omega)
  have g7 : μ1 (p + 7) = μ (p + 7) := eP _ (by omega)
  have g8 : μ1 (p + 8) = μ (p + 8) := eP _ (by omega)
  have g9 : μ1 (p + 9) = μ (p + 9) := eP _ (by omega)
  have g10 : μ1 (p + 10) = μ (p + 10) := eP _ (by omega)
  simp only [uglGf_cg eP, g0, g9, g10] at w8
  have hz : z8 = z7 := w8.trans w7.symm
  exact ⟨z7, μ1, μ2, e7, hz ▸ e8, p, h2⟩
theorem pr_smooth (X : AX) (h : INV μ p) (n : Int) (w : Int) (hn : -2147483648 ≤ n ∧ n ≤ 2147483647) (hw : -2147483648 ≤ w ∧ w ≤ 2147483647) : PR X M_X7_smooth M_X8_smooth [(2, 0), (0, n), (0, w)] [(2, 45), (0, n), (0, w), (9, 0)] μ := by
  have hp := h.cj.i.at
  obtain ⟨_, μ1, e7, z7, rfl, F7, w7⟩ := s_X7_smooth X p n w μ h.cj hn hw
  have F7 : Fr 6 19 1 0 μ1 μ := F7.wd (by omega) (by omega)
  have h1 : INV μ1 p := h.a F7
  have eP : ∀ o : Int, p ≤ o ∧ o ≤ p + 10 → μ1 o = μ o := fun o h9 => F7.at (by omega) (by omega)
  have ea : ∀ o : Int, ¬ (6 ≤ o ∧ o ≤ 19) → μ1 o = μ o := fun o h9 => F7.at (by omega) (by omega)
  obtain ⟨_, μ2, e8, z8, rfl, F8, w8, hJ, f8, k8⟩ := s_X8_smooth X p n w μ1 h1.cj h1.rj hn hw
  have e2 : ∀ o : Int, o ≤ 44 ∨ o = 46 ∨ o = 47 ∨ o = 62 ∨ o = 69 ∨ o = 70 → μ2 o = μ1 o := fun o h9 => by by_cases q : 62 ≤ o; exact k8 o (by omega); exact F8.at (by omega) (by omega)
  have h2 : INV μ2 p := h1.b hJ e2 (fun k9 h9 => f8 k9 (by omega))
  have g0 : μ1 p = μ p := eP _ (by omega)
  have g3 : μ1 (p + 3) = μ (p + 3) := eP _ (by omega)
  have g4 : μ1 (p + 4) = μ (p + 4) := eP _ (by omega)
  have g5 : μ1 (p + 5) = μ (p + 5) := eP _ (by omega)
  have g7 : μ1 (p + 7) = μ (p + 7) := eP _ (by omega)
  have g8 : μ1 (p + 8) = μ (p + 8) := eP _ (by omega)
  have g9 : μ1 (p + 9) = μ (p + 9) := eP _ (by omega)
  have g10 : μ1 (p + 10) = μ (p + 10) := eP _ (by omega)
  simp only [ddt_cg eP, g0] at w8
  have hz : z8 = z7 := w8.trans w7.symm
  exact ⟨z7, μ1, μ2, e7, hz ▸ e8, p, h2⟩
theorem pr_smoothed (X : AX) (h : INV μ p) (n : Int) (g : Int) (w : Int) (hn : -2147483648 ≤ n ∧ n ≤ 2147483647) (hg : -2147483648 ≤ g ∧ g ≤ 2147483647) (hw : -2147483648 ≤ w ∧ w ≤ 2147483647) : PR X M_X7_smoothed M_X8_smoothed [(2, 0), (0, n), (0, g), (0, w), (9, 0), (9, 0)] [(2, 45), (0, n), (0, g), (0, w), (9, 0)] μ := by
  have hp := h.cj.i.at
  obtain ⟨_, μ1, e7, z7, rfl, F7, w7⟩ := s_X7_smoothed X p n g w μ h.cj hn hg hw
  have F7 : Fr 6 19 1 0 μ1 μ := F7.wd (by omega) (by omega)
  have h1 : INV μ1 p := h.a F7
  have eP : ∀ o : Int, p ≤ o ∧ o ≤ p + 10 → μ1 o = μ o := fun o h9 => F7.at (by omega) (by omega)
  have ea : ∀ o : Int, ¬ (6 ≤ o ∧ o ≤ 19) → μ1 o = μ o := fun o h9 => F7.at (by omega) (by omega)
  obtain ⟨_, μ2, e8, z8, rfl, F8, w8, hJ, f8, k8⟩ := s_X8_smoothed X p n g w μ1 h1.cj h1.rj hn hg hw
  have e2 : ∀ o : Int, o ≤ 44 ∨ o = 46 ∨ o = 47 ∨ o = 62 ∨ o = 69 ∨ o = 70 → μ2 o = μ1 o := fun o h9 => by by_cases q : 62 ≤ o; exact k8 o (by omega); exact F8.at (by omega) (by omega)
  have h2 : INV μ2 p := h1.b hJ e2 (fun k9 h9 => f8 k9 (by omega))
  have g0 : μ1 p = μ p := eP _ (by omega)
  have g3 : μ1 (p + 3) = μ (p + 3) := eP _ (by omega)
  have g4 : μ1 (p + 4) = μ (p + 4) := eP _ (by omega)
  have g5 : μ1 (p + 5) = μ (p + 5) := eP _ (by omega)
  have g7 : μ1 (p + 7) = μ (p + 7) := eP _ (by omega)
  have g8 : μ1 (p + 8) = μ (p + 8) := eP _ (by omega)
  have g9 : μ1 (p + 9) = μ (p + 9) := eP _ (by omega)
  have g10 : μ1 (p + 10) = μ (p + 10) := eP _ (by omega)
  simp only [ddt_cg eP, g0] at w8
  have hz : z8 = z7 := w8.trans w7.symm
  exact ⟨z7, μ1, μ2, e7, hz ▸ e8, p, h2⟩
theorem pr_single (X : AX) (h : INV μ p) (i : Int) (w : Int) (hi : -2147483648 ≤ i ∧ i ≤ 2147483647) (hw : -2147483648 ≤ w ∧ w ≤ 2147483647) : PR X M_X7_single M_X8_single [(2, 0), (0, i), (0, w), (9, 0), (9, 0), (9, 0)] [(2, 45), (0, i), (0, w), (9, 0), (9, 0), (9, 0), (9, 0)] μ := by
  have hp := h.cj.i.at
  obtain ⟨_, μ1, e7, rfl, e9⟩ := s_X7_single X p i w μ h.cj hi hw
  have h1 : INV μ1 p := by rw [e9]; exact h
  have eP : ∀ o : Int, p ≤ o ∧ o ≤ p + 10 → μ1 o = μ o := fun o _ => congrFun e9 o
  have ea : ∀ o : Int, ¬ (6 ≤ o ∧ o ≤ 19) → μ1 o = μ o := fun o _ => congrFun e9 o
  obtain ⟨_, μ2, e8, z8, rfl, F8, w8, hJ, f8⟩ := s_X8_single X p i w μ1 h1.cj h1.rj hi hw
  have e2 : ∀ o : Int, o ≤ 44 ∨ o = 46 ∨ o = 47 ∨ o = 62 ∨ o = 69 ∨ o = 70 → μ2 o = μ1 o := fun o h9 => F8.at (by omega) (by omega)
  have h2 : INV μ2 p := h1.b hJ e2 (fun k9 h9 => f8 k9 (by omega))
  have g0 : μ1 p = μ p := eP _ (by omega)
  have g3 : μ1 (p + 3) = μ (p + 3) := eP _ (by omega)
  have g4 : μ1 (p + 4) = μ (p + 4) := eP _ (by omega)
  have g5 : μ1 (p + 5) = μ (p + 5) := eP _ (by omega)
  have g7 : μ1 (p + 7) = μ (p + 7) := eP _ (by omega)
  have g8 : μ1 (p + 8) = μ (p + 8) := eP _ (by omega)
  have g9 : μ1 (p + 9) = μ (p + 9) := eP _ (by omega)
  have g10 : μ1 (p + 10) = μ (p + 10) := eP _ (by omega)
  simp only [sglA_cg eP, g0, g4, g8] at w8
  exact ⟨_, μ1, μ2, e7, w8 ▸ e8, p, h2⟩
theorem pr_extreme (X : AX) (h : INV μ p) (g : Int) (w : Int) (hg : -2147483648 ≤ g ∧ g ≤ 2147483647) (hw : -2147483648 ≤ w ∧ w ≤ 2147483647) : PR X M_X7_extreme M_X8_extreme [(2, 0), (0, g), (0, w), (9, 0), (9, 0), (9, 0), (9, 0), (9, 0)] [(2, 45), (0, g), (0, w), (9, 0), (9, 0), (9, 0), (9, 0)] μ := by
  have hp := h.cj.i.at
  obtain ⟨_, μ1, e7, z7, rfl, F7, w7⟩ := s_X7_extreme X p g w μ h.cj hg hw
  have F7 : Fr 6 19 1 0 μ1 μ := F7.wd (by omega) (by omega)
  have h1 : INV μ1 p := h.a F7
  have eP : ∀ o : Int, p ≤ o ∧ o ≤ p + 10 → μ1 o = μ o := fun o h9 => F7.at (by omega) (by omega)
  have ea : ∀ o : Int, ¬ (6 ≤ o ∧ o ≤ 19) → μ1 o = μ o := fun o h9 => F7.at (by omega) (by omega)
  obtain ⟨_, μ2, e8, z8, rfl, F8, w8, hJ, f8⟩ := s_X8_extreme X p g w μ1 h1.cj h1.rj hg hw
  have e2 : ∀ o : Int, o ≤ 44 ∨ o = 46 ∨ o = 47 ∨ o = 62 ∨ o = 69 ∨ o = 70 → μ2 o = μ1 o := fun o h9 => F8.at (by omega) (by omega)
  have h2 : INV μ2 p := h1.b hJ e2 (fun k9 h9 => f8 k9 (by omega))
  have g0 : μ1 p = μ p := eP _ (by omega)
  have g3 : μ1 (p + 3) = μ (p + 3) := eP _ (by omega)
  have g4 : μ1 (p + 4) = μ (p + 4) := eP _ (by omega)
  have g5 : μ1 (p + 5) = μ (p + 5) := eP _ (by omega)
  have g7 : μ1 (p + 7) = μ (p + 7) := eP _ (by omega)
  have g8 : μ1 (p + 8) = μ (p + 8) := eP _ (by omega)
  have g9 : μ1 (p + 9) = μ (p + 9) := eP _ (by omega)
  have g10 : μ1 (p + 10) = μ (p + 10) := eP _ (by omega)
  simp only [ddt_cg eP, g0, g9] at w8
  have hz : z8 = z7 := w8.trans w7.symm
  exact ⟨z7, μ1, μ2, e7, hz ▸ e8, p, h2⟩
theorem pr_count (X : AX) (h : INV μ p) (w : Int) (hw : -2147483648 ≤ w ∧ w ≤ 2147483647) : PR X M_X7_count M_X8_count [(2, 0), (0, w)] [(2, 45), (0, w)] μ := by
  have hp := h.cj.i.at
  obtain ⟨_, μ1, e7, rfl, e9⟩ := s_X7_count X p w μ h.cj hw
  have h1 : INV μ1 p := by rw [e9]; exact h
  have eP : ∀ o : Int, p ≤ o ∧ o ≤ p + 10 → μ1 o = μ o := fun o _ => congrFun e9 o
  have ea : ∀ o : Int, ¬ (6 ≤ o ∧ o ≤ 19) → μ1 o = μ o := fun o _ => congrFun e9 o
  obtain ⟨_, μ2, e8, z8, rfl, F8, w8, hJ, f8⟩ := s_X8_count X p w μ1 h1.cj h1.rj h1.rx hw h1.ti.2.1 h1.hi.2.1
  have e2 : ∀ o : Int, o ≤ 44 ∨ o = 46 ∨ o = 47 ∨ o = 62 ∨ o = 69 ∨ o = 70 → μ2 o = μ1 o := fun o h9 => F8.at (by omega) (by omega)
  have h2 : INV μ2 p := h1.b hJ e2 (fun k9 h9 => f8 k9 (by omega))
  have g0 : μ1 p = μ p := eP _ (by omega)
  have g3 : μ1 (p + 3) = μ (p + 3) := eP _ (by omega)
  have g4 : μ1 (p + 4) = μ (p + 4) := eP _ (by omega)
  have g5 : μ1 (p + 5) = μ (p + 5) := eP _ (by omega)
  have g7 : μ1 (p + 7) = μ (p + 7) := eP _ (by omega)
  have g8 : μ1 (p + 8) = μ (p + 8) := eP _ (by omega)
  have g9 : μ1 (p + 9) = μ (p + 9) := eP _ (by omega)
  have g10 : μ1 (p + 10) = μ (p + 10) := eP _ (by omega)
  rw [cntC_cg eP (ea 3 (by omega)) (ea 1 (by omega))] at w8
  exact ⟨_, μ1, μ2, e7, w8 ▸ e8, p, h2⟩
end prs
