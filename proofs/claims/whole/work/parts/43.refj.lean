/-! ===== The reference's cells beside the class's ===== -/
def goR (a : Int) : Int := if a < 0 then -2 else a
/-- the reference holds the class's piece p -/
def RJ (μ : Mu) (p : Int) : Prop := (μ 45 1 = μ p 1 ∧ μ 45 2 = μ p 2 ∧ μ 45 5 = μ p 3 ∧ μ 45 7 = μ p 7 ∧ μ 45 17 = μ p 14 ∧ μ 45 19 = μ p 3) ∧
  (∀ i, 0 ≤ i → i < μ p 7 → μ 48 i = bok (μ (p + 3) i) ∧ μ 49 i = μ (p + 4) i ∧ μ 50 i = μ (p + 5) i ∧ μ 51 i = μ (p + 6) i ∧ μ 52 i = μ (p + 7) i ∧ μ 53 i = goR (μ (p + 8) i) ∧ μ 56 i = μ (p + 5) i) ∧
  (∀ g, 0 ≤ g → g < μ p 14 → μ 54 g = μ (p + 9) g ∧ μ 55 g = μ (p + 10) g)
section RJs
variable {μ μ1 : Mu} {p i g : Int}
theorem RJ.f1 (h : RJ μ p) : μ 45 1 = μ p 1 := h.1.1
theorem RJ.f2 (h : RJ μ p) : μ 45 2 = μ p 2 := h.1.2.1
theorem RJ.f5 (h : RJ μ p) : μ 45 5 = μ p 3 := h.1.2.2.1
theorem RJ.f7 (h : RJ μ p) : μ 45 7 = μ p 7 := h.1.2.2.2.1
theorem RJ.f17 (h : RJ μ p) : μ 45 17 = μ p 14 := h.1.2.2.2.2.1
theorem RJ.f19 (h : RJ μ p) : μ 45 19 = μ p 3 := h.1.2.2.2.2.2
theorem RJ.kd (h : RJ μ p) (hi : 0 ≤ i ∧ i < μ p 7) : μ 48 i = bok (μ (p + 3) i) := (h.2.1 i hi.1 hi.2).1
theorem RJ.nt (h : RJ μ p) (hi : 0 ≤ i ∧ i < μ p 7) : μ 49 i = μ (p + 4) i := (h.2.1 i hi.1 hi.2).2.1
theorem RJ.po (h : RJ μ p) (hi : 0 ≤ i ∧ i < μ p 7) : μ 50 i = μ (p + 5) i := (h.2.1 i hi.1 hi.2).2.2.1
theorem RJ.tm (h : RJ μ p) (hi : 0 ≤ i ∧ i < μ p 7) : μ 51 i = μ (p + 6) i := (h.2.1 i hi.1 hi.2).2.2.2.1
theorem RJ.xs (h : RJ μ p) (hi : 0 ≤ i ∧ i < μ p 7) : μ 52 i = μ (p + 7) i := (h.2.1 i hi.1 hi.2).2.2.2.2.1
theorem RJ.go (h : RJ μ p) (hi : 0 ≤ i ∧ i < μ p 7) : μ 53 i = goR (μ (p + 8) i) := (h.2.1 i hi.1 hi.2).2.2.2.2.2.1
theorem RJ.ht (h : RJ μ p) (hi : 0 ≤ i ∧ i < μ p 7) : μ 56 i = μ (p + 5) i := (h.2.1 i hi.1 hi.2).2.2.2.2.2.2
theorem RJ.gf (h : RJ μ p) (hg : 0 ≤ g ∧ g < μ p 14) : μ 54 g = μ (p + 9) g := (h.2.2 g hg.1 hg.2).1
theorem RJ.gm (h : RJ μ p) (hg : 0 ≤ g ∧ g < μ p 14) : μ 55 g = μ (p + 10) g := (h.2.2 g hg.1 hg.2).2
theorem RJ.rgs (h : RJ μ p) (hC : CJ μ p) (hg : 0 ≤ g ∧ g < μ p 14) : RGs (ddt μ p (p + 5) (μ p 3) g) (μ (p + 9) g) g μ := by
  have h1 := hC.pg.fl hg
  have h2 := hC.i.sz
  have h3 := hC.pg.gr
  refine ⟨gdt_ok hC.i hC.pg (hC.ld5 hg hC.kn), ⟨h1.1, ?_, hg.1, by omega⟩, ⟨h.gf hg, h.gm hg, h.f19⟩, ?_⟩
  · show μ (p + 9) g + μ (p + 10) g ≤ 64
    omega
  · intro i hi1 hi2
    have hi3 : i < μ (p + 10) g := hi2
    have e1 : dX (ddt μ p (p + 5) (μ p 3) g) i = μ (p + 7) (μ (p + 9) g + i) - μ (p + 7) (μ (p + 9) g) := gdt_x ⟨hi1, hi3⟩
    have e2 : dH (ddt μ p (p + 5) (μ p 3) g) i = μ (p + 5) (μ (p + 9) g + i) := gdt_h ⟨hi1, hi3⟩
    have e3 : dB (ddt μ p (p + 5) (μ p 3) g) i = bmz μ p (μ (p + 9) g + i) := gdt_b ⟨hi1, hi3⟩
    rw [e1, e2, e3, h.xs (by omega), h.xs (by omega), h.ht (by omega), h.kd (by omega)]
    refine ⟨rfl, rfl, ?_⟩
    have h4 := hC.pg.of hg (i := μ (p + 9) g + i) ⟨by omega, by omega⟩
    unfold bmz
    rw [if_neg (by omega)]
theorem RJ.rag (h : RJ μ p) (hC : CJ μ p) : RAg (ddt μ p (p + 5) (μ p 3)) (μ (p + 9)) (μ p 14) μ := ⟨⟨h.f17, hC.pg.gr⟩, fun g h1 h2 => h.rgs hC ⟨h1, h2⟩⟩
theorem RJ.cg2 (h : RJ μ p) (e : ∀ o : Int, (48 ≤ o ∧ o ≤ 56) ∨ (p ≤ o ∧ o ≤ p + 10) → μ1 o = μ o) (f : ∀ k : Int, (k = 1 ∨ k = 2 ∨ k = 5 ∨ k = 7 ∨ k = 17 ∨ k = 19) → μ1 45 k = μ 45 k) : RJ μ1 p := by
  unfold RJ at h ⊢
  rw [f 1 (by omega), f 2 (by omega), f 5 (by omega), f 7 (by omega), f 17 (by omega), f 19 (by omega), e 48 (by omega), e 49 (by omega), e 50 (by omega), e 51 (by omega), e 52 (by omega), e 53 (by omega), e 54 (by omega), e 55 (by omega), e 56 (by omega), e p (by omega), e (p + 3) (by omega), e (p + 4) (by omega), e (p + 5) (by omega), e (p + 6) (by omega), e (p + 7) (by omega), e (p + 8) (by omega), e (p + 9) (by omega), e (p + 10) (by omega)]
  exact h
end RJs
theorem goR_f (a : Int) : (a < 0 ∧ goR a = -2) ∨ (0 ≤ a ∧ goR a = a) := by unfold goR; split <;> omega
theorem bok_f (a : Int) : 0 ≤ bok a ∧ bok a ≤ 3 := by unfold bok; split <;> (try split) <;> (try split) <;> omega
