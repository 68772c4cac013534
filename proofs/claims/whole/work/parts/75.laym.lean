/-! ===== What the reference lays: times, places, groups beside the class's ===== -/
def LAYS (μ : Mu) (p : Int) : Prop := (0 < μ p 7 → μ (p + 6) 0 = 0 ∧ μ (p + 7) 0 = 0) ∧ ∀ j, 0 ≤ j → j + 1 < μ p 7 → μ (p + 6) (j + 1) = μ (p + 6) j + lok (μ (p + 3) j) ∧ μ (p + 7) (j + 1) = μ (p + 7) j + μ (p + 2) (bok (μ (p + 3) j))
def tqx (μ : Mu) (p i : Int) : Int := if i = 0 then 0 else μ (p + 6) (i - 1) + lok (μ (p + 3) (i - 1))
def xqx (μ : Mu) (p i : Int) : Int := if i = 0 then 0 else μ (p + 7) (i - 1) + μ (p + 2) (bok (μ (p + 3) (i - 1)))
section lays
variable {μ μ1 : Mu} {p i : Int}
theorem tqx_0 : tqx μ p 0 = 0 := if_pos rfl
theorem xqx_0 : xqx μ p 0 = 0 := if_pos rfl
theorem tqx_s (h : 0 ≤ i) : tqx μ p (i + 1) = μ (p + 6) i + lok (μ (p + 3) i) := by
  unfold tqx
  rw [if_neg (by omega), show i + 1 - 1 = i by omega]
theorem xqx_s (h : 0 ≤ i) : xqx μ p (i + 1) = μ (p + 7) i + μ (p + 2) (bok (μ (p + 3) i)) := by
  unfold xqx
  rw [if_neg (by omega), show i + 1 - 1 = i by omega]
theorem LAYS.t (h : LAYS μ p) (hi : 0 ≤ i ∧ i < μ p 7) : tqx μ p i = μ (p + 6) i := by
  by_cases e : i = 0
  · rw [e, tqx_0]; exact ((h.1 (by omega)).1).symm
  · have h1 := (h.2 (i - 1) (by omega) (by omega)).1
    rw [show i = (i - 1) + 1 by omega, tqx_s (by omega)]
    exact h1.symm
theorem LAYS.x (h : LAYS μ p) (hi : 0 ≤ i ∧ i < μ p 7) : xqx μ p i = μ (p + 7) i := by
  by_cases e : i = 0
  · rw [e, xqx_0]; exact ((h.1 (by omega)).2).symm
  · have h1 := (h.2 (i - 1) (by omega) (by omega)).2
    rw [show i = (i - 1) + 1 by omega, xqx_s (by omega)]
    exact h1.symm
/-- the class's -1 for the reference's -2 -/
def goI (a : Int) : Int := if a = -2 then -1 else a
theorem goI_n : goI (-2) = -1 := rfl
theorem goI_g {a : Int} (h : 0 ≤ a) : goI a = a := if_neg (by omega)
abbrev GRR (μ μ1 : Mu) (p i g : Int) : Prop := GRI (μ p 7) (fun j => runl μ p j 0) (fun _ => True) (μ1 54) (μ1 55) (fun j => goI (μ1 53 j)) i g
theorem prl_in {F M F1 M1 : Int → Int} {g g1 : Int} (h0 : 0 ≤ g) (h1 : 0 ≤ g1) (h : prl F M g = prl F1 M1 g1) : g = g1 ∧ ∀ k, 0 ≤ k → k < g → F k = F1 k ∧ M k = M1 k := by
  have hl : g = g1 := by
    have := congrArg List.length h
    unfold prl at this
    simp at this
    omega
  refine ⟨hl, fun k a c => ?_⟩
  have h2 := congrArg (fun l => l[k.toNat]?) h
  unfold prl at h2
  simp only [List.getElem?_map] at h2
  rw [List.getElem?_range (by omega), List.getElem?_range (by omega)] at h2
  simp only [Option.map_some, Option.some.injEq, Prod.mk.injEq] at h2
  rw [show ((k.toNat : Nat) : Int) = k by omega] at h2
  exact h2
theorem GRR.end {g : Int} (h : GRR μ μ1 p i g) (hi : ¬ i < μ p 7) (hP : PG μ p) (hl : prl (μ (p + 9)) (μ (p + 10)) (μ p 14) = seg (μ p 7) (fun j => runl μ p j 0) 0) (hn : ∀ j, 0 ≤ j → j < μ p 7 → μ1 53 j = -2 ∨ 0 ≤ μ1 53 j) :
    g = μ p 14 ∧ (∀ k, 0 ≤ k → k < μ p 14 → μ1 54 k = μ (p + 9) k ∧ μ1 55 k = μ (p + 10) k) ∧ ∀ j, 0 ≤ j → j < μ p 7 → μ1 53 j = goR (μ (p + 8) j) := by
  have h5 := h.2.2.2.2
  rw [seg_end (by omega), List.append_nil, ← hl] at h5
  have h6 := prl_in h.1.2.2.1 hP.gr.1 h5
  have hg := h6.1
  refine ⟨hg, fun k a c => h6.2 k a (by omega), fun j a c => ?_⟩
  have h7 := hP.go (i := j) ⟨a, c⟩
  have h8 := hn j a c
  have h9 := (h.2.2.1 j a c).1
  by_cases e : μ (p + 8) j < 0
  · have e1 : goR (μ (p + 8) j) = -2 := if_pos e
    rw [e1]
    rcases h8 with q | q
    · exact q
    · exfalso
      have g1 := (h.2.2.1 j a c).2
      rw [show (fun j => goI (μ1 53 j)) j = μ1 53 j from goI_g q] at g1 h9
      have g2 := g1 q
      have g3 := h6.2 (μ1 53 j) q (by omega)
      have g4 := hP.of (g := μ1 53 j) (i := j) ⟨q, by omega⟩ (by omega)
      omega
  · have e1 : goR (μ (p + 8) j) = μ (p + 8) j := if_neg e
    rw [e1]
    have g2 := hP.go2 (i := j) ⟨a, c⟩ (by omega)
    have g3 := h6.2 (μ (p + 8) j) (by omega) (by omega)
    have g4 := (h.2.1 (μ (p + 8) j) (by omega) (by omega)).2 j (by omega) (by omega)
    have g5 : goI (μ1 53 j) = μ (p + 8) j := g4.1
    rcases h8 with q | q
    · rw [q, goI_n] at g5; omega
    · rw [goI_g q] at g5; exact g5
end lays
section lays2
variable {μ μ1 : Mu} {p i each : Int}
theorem bmz_cg9 (e : ∀ o : Int, p ≤ o ∧ o ≤ p + 10 → μ1 o = μ o) : bmz μ1 p i = bmz μ p i := by
  unfold bmz
  rw [e (p + 3) (by omega), e (p + 4) (by omega)]
theorem GRR.up {g v : Int} {o : Int} (h : GRR μ μ1 p i g) (ho : ¬ o = 53 ∧ ¬ o = 54 ∧ ¬ o = 55) {k : Int} : GRR μ (am_up μ1 o k v) p i g := by
  unfold GRR at h ⊢
  rw [am_up_o (o2 := 54) (by omega), am_up_o (o2 := 55) (by omega), am_up_o (o2 := 53) (by omega)]
  exact h
end lays2
theorem RJl.cg2 {μ μ1 : Mu} {p : Int} (h : RJl μ p) (e : ∀ o : Int, (48 ≤ o ∧ o ≤ 49) ∨ (51 ≤ o ∧ o ≤ 51) ∨ (p ≤ o ∧ o ≤ p + 10) → μ1 o = μ o) (f : ∀ k : Int, k = 1 ∨ k = 2 ∨ k = 7 → μ1 45 k = μ 45 k) : RJl μ1 p := by
  unfold RJl at h ⊢
  rw [f 1 (by omega), f 2 (by omega), f 7 (by omega), e 48 (by omega), e 49 (by omega), e 51 (by omega), e p (by omega), e (p + 3) (by omega), e (p + 4) (by omega), e (p + 6) (by omega)]
  exact h
