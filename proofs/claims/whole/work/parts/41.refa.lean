/-! ===== All groups in the reference's cells ===== -/
/-- every slot tells its group -/
def RAg (DD : Int → GDt) (F : Int → Int) (ng : Int) (μ : Mu) : Prop := (μ 45 17 = ng ∧ 0 ≤ ng ∧ ng ≤ 32) ∧ ∀ g, 0 ≤ g → g < ng → RGs (DD g) (F g) g μ
section RAs
variable {DD : Int → GDt} {F : Int → Int} {ng g : Int} {μ μ1 : Mu}
theorem RAg.n (h : RAg DD F ng μ) : μ 45 17 = ng := h.1.1
theorem RAg.r (h : RAg DD F ng μ) : 0 ≤ ng ∧ ng ≤ 32 := h.1.2
theorem RAg.gp (h : RAg DD F ng μ) (hg : 0 ≤ g ∧ g < ng) : RGs (DD g) (F g) g μ := h.2 g hg.1 hg.2
theorem RAg.dd (h : RAg DD F ng μ) : DDok DD ng := fun g h1 h2 => (h.2 g h1 h2).ok
theorem RAg.cg2 (h : RAg DD F ng μ) (e : ∀ o : Int, (48 ≤ o ∧ o ≤ 48) ∨ (52 ≤ o ∧ o ≤ 52) ∨ (54 ≤ o ∧ o ≤ 56) → μ1 o = μ o) (e2 : ∀ k : Int, k = 17 ∨ k = 19 → μ1 45 k = μ 45 k) : RAg DD F ng μ1 := by
  refine ⟨⟨?_, h.r⟩, fun g h1 h2 => (h.2 g h1 h2).cg2 e (fun k h3 => e2 k (by omega))⟩
  rw [e2 17 (by omega)]; exact h.n
end RAs
theorem ansB_2 {D : GDt} (h : GOK D) : ansB D 2 = if mnK D = 9223372036854775807 then -1000000 else bU D := by
  unfold ansB
  by_cases hm : mnK D = 9223372036854775807
  · rw [if_pos hm, if_pos hm]
  · rw [if_neg hm, if_neg hm, (mnK_w h hm).2.2.2]
    rfl
