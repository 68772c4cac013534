/-! ===== The reference beside the class: other positions, another knee ===== -/
/-- all of RJ but the positions in thought and the knee in thought -/
def RJz (μ : Mu) (p : Int) : Prop := (μ 45 1 = μ p 1 ∧ μ 45 2 = μ p 2 ∧ μ 45 5 = μ p 3 ∧ μ 45 7 = μ p 7 ∧ μ 45 17 = μ p 14) ∧
  (∀ i, 0 ≤ i → i < μ p 7 → μ 48 i = bok (μ (p + 3) i) ∧ μ 49 i = μ (p + 4) i ∧ μ 50 i = μ (p + 5) i ∧ μ 51 i = μ (p + 6) i ∧ μ 52 i = μ (p + 7) i ∧ μ 53 i = goR (μ (p + 8) i)) ∧
  (∀ g, 0 ≤ g → g < μ p 14 → μ 54 g = μ (p + 9) g ∧ μ 55 g = μ (p + 10) g)
section RJzs
variable {μ μ1 : Mu} {p i g : Int}
theorem RJz.f1 (h : RJz μ p) : μ 45 1 = μ p 1 := h.1.1
theorem RJz.f2 (h : RJz μ p) : μ 45 2 = μ p 2 := h.1.2.1
theorem RJz.f5 (h : RJz μ p) : μ 45 5 = μ p 3 := h.1.2.2.1
theorem RJz.f7 (h : RJz μ p) : μ 45 7 = μ p 7 := h.1.2.2.2.1
theorem RJz.f17 (h : RJz μ p) : μ 45 17 = μ p 14 := h.1.2.2.2.2
theorem RJz.kd (h : RJz μ p) (hi : 0 ≤ i ∧ i < μ p 7) : μ 48 i = bok (μ (p + 3) i) := (h.2.1 i hi.1 hi.2).1
theorem RJz.nt (h : RJz μ p) (hi : 0 ≤ i ∧ i < μ p 7) : μ 49 i = μ (p + 4) i := (h.2.1 i hi.1 hi.2).2.1
theorem RJz.po (h : RJz μ p) (hi : 0 ≤ i ∧ i < μ p 7) : μ 50 i = μ (p + 5) i := (h.2.1 i hi.1 hi.2).2.2.1
theorem RJz.tm (h : RJz μ p) (hi : 0 ≤ i ∧ i < μ p 7) : μ 51 i = μ (p + 6) i := (h.2.1 i hi.1 hi.2).2.2.2.1
theorem RJz.xs (h : RJz μ p) (hi : 0 ≤ i ∧ i < μ p 7) : μ 52 i = μ (p + 7) i := (h.2.1 i hi.1 hi.2).2.2.2.2.1
theorem RJz.go (h : RJz μ p) (hi : 0 ≤ i ∧ i < μ p 7) : μ 53 i = goR (μ (p + 8) i) := (h.2.1 i hi.1 hi.2).2.2.2.2.2
theorem RJz.gf (h : RJz μ p) (hg : 0 ≤ g ∧ g < μ p 14) : μ 54 g = μ (p + 9) g := (h.2.2 g hg.1 hg.2).1
theorem RJz.gm (h : RJz μ p) (hg : 0 ≤ g ∧ g < μ p 14) : μ 55 g = μ (p + 10) g := (h.2.2 g hg.1 hg.2).2
theorem RJ.j0 (h : RJ μ p) : RJz μ p := ⟨⟨h.f1, h.f2, h.f5, h.f7, h.f17⟩, fun i h1 h2 => ⟨h.kd ⟨h1, h2⟩, h.nt ⟨h1, h2⟩, h.po ⟨h1, h2⟩, h.tm ⟨h1, h2⟩, h.xs ⟨h1, h2⟩, h.go ⟨h1, h2⟩⟩, h.2.2⟩
theorem RJz.of (h : RJz μ p) (h19 : μ 45 19 = μ p 3) (h56 : ∀ i, 0 ≤ i → i < μ p 7 → μ 56 i = μ (p + 5) i) : RJ μ p := ⟨⟨h.f1, h.f2, h.f5, h.f7, h.f17, h19⟩, fun i h1 h2 => ⟨h.kd ⟨h1, h2⟩, h.nt ⟨h1, h2⟩, h.po ⟨h1, h2⟩, h.tm ⟨h1, h2⟩, h.xs ⟨h1, h2⟩, h.go ⟨h1, h2⟩, h56 i h1 h2⟩, h.2.2⟩
theorem RJz.cg2 (h : RJz μ p) (e : ∀ o : Int, (48 ≤ o ∧ o ≤ 55) ∨ (p ≤ o ∧ o ≤ p + 10) → μ1 o = μ o) (f : ∀ k : Int, (k = 1 ∨ k = 2 ∨ k = 5 ∨ k = 7 ∨ k = 17) → μ1 45 k = μ 45 k) : RJz μ1 p := by
  unfold RJz at h ⊢
  rw [f 1 (by omega), f 2 (by omega), f 5 (by omega), f 7 (by omega), f 17 (by omega), e 48 (by omega), e 49 (by omega), e 50 (by omega), e 51 (by omega), e 52 (by omega), e 53 (by omega), e 54 (by omega), e 55 (by omega), e p (by omega), e (p + 3) (by omega), e (p + 4) (by omega), e (p + 5) (by omega), e (p + 6) (by omega), e (p + 7) (by omega), e (p + 8) (by omega), e (p + 9) (by omega), e (p + 10) (by omega)]
  exact h
end RJzs
theorem gdtF_x {μ : Mu} {p f m kn i : Int} {hf : Int → Int} (h : 0 ≤ i ∧ i < m) : dX (gdtF μ p hf f m kn) i = μ (p + 7) (f + i) - μ (p + 7) f := tr_at (f := fun i => μ (p + 7) (f + i) - μ (p + 7) f) h
theorem gdtF_h {μ : Mu} {p f m kn i : Int} {hf : Int → Int} (h : 0 ≤ i ∧ i < m) : dH (gdtF μ p hf f m kn) i = hf (f + i) := tr_at (f := fun i => hf (f + i)) h
theorem gdtF_b {μ : Mu} {p f m kn i : Int} {hf : Int → Int} (h : 0 ≤ i ∧ i < m) : dB (gdtF μ p hf f m kn) i = bmz μ p (f + i) := tr_at (f := fun i => bmz μ p (f + i)) h
theorem gdtF_ok {μ : Mu} {p f m kn : Int} {hf : Int → Int} (hC : CJ μ p) (h1 : 0 ≤ f ∧ 2 ≤ m ∧ f + m ≤ μ p 7) (hk : 4 ≤ kn ∧ kn ≤ 24) (hb : ∀ i, f ≤ i → i < f + m → 1 ≤ bmz μ p i) (hq : ∀ i, f ≤ i → i < f + m → -12 ≤ hf i ∧ hf i ≤ 12) : GOK (gdtF μ p hf f m kn) := by
  have hz := hC.i.sz
  refine ⟨⟨h1.2.1, by show m ≤ 64; omega⟩, hk, ?_, ?_, ?_⟩
  · rw [gdtF_x (by omega)]
    simp
  · intro i hi hm
    change i + 1 < m at hm
    have h4 := hC.pg.xs (i := f + i) (by omega)
    rw [gdtF_x (by omega), gdtF_x (by omega), ← Int.add_assoc]
    omega
  · intro i hi hm
    change i < m at hm
    have h5 := bmz_r μ p (f + i)
    have h6 := hb (f + i) (by omega) (by omega)
    have h7 := hq (f + i) (by omega) (by omega)
    rw [gdtF_h (by omega), gdtF_b (by omega)]
    omega
/-- a slot of the reference tells some notes at some positions -/
theorem RJz.rgf {μ μ1 : Mu} {p f m g kn : Int} {hf : Int → Int} (hJ : RJz μ1 p) (hC : CJ μ p) (e : ∀ o : Int, p ≤ o ∧ o ≤ p + 10 → μ1 o = μ o) (h1 : 0 ≤ f ∧ 2 ≤ m ∧ f + m ≤ μ p 7) (hg : 0 ≤ g ∧ g ≤ 32) (h54 : μ1 54 g = f) (h55 : μ1 55 g = m) (hk : 4 ≤ kn ∧ kn ≤ 24) (h19 : μ1 45 19 = kn)
    (hb : ∀ i, f ≤ i → i < f + m → 0 ≤ μ (p + 8) i ∧ 1 ≤ bmz μ p i) (hq : ∀ i, f ≤ i → i < f + m → μ1 56 i = hf i ∧ -12 ≤ hf i ∧ hf i ≤ 12) : RGs (gdtF μ p hf f m kn) f g μ1 := by
  have hz := hC.i.sz
  have e0 := e p (by omega)
  refine ⟨gdtF_ok hC h1 hk (fun i a b => (hb i a b).2) (fun i a b => (hq i a b).2), ⟨h1.1, ?_, hg⟩, ⟨h54, h55, h19⟩, ?_⟩
  · show f + m ≤ 64
    omega
  · intro i hi hm
    change i < m at hm
    rw [gdtF_x (by omega), gdtF_h (by omega), gdtF_b (by omega), hJ.xs (by rw [e0]; omega), hJ.xs (by rw [e0]; omega), hJ.kd (by rw [e0]; omega), e (p + 7) (by omega), e (p + 3) (by omega), (hC.bg (i := f + i) (by omega) (hb (f + i) (by omega) (by omega)).1).1]
    exact ⟨rfl, (hq (f + i) (by omega) (by omega)).1, rfl⟩
theorem RJz.rgs {μ μ1 : Mu} {p g kn : Int} {hf : Int → Int} (hJ : RJz μ1 p) (hC : CJ μ p) (e : ∀ o : Int, p ≤ o ∧ o ≤ p + 10 → μ1 o = μ o) (hg : 0 ≤ g ∧ g < μ p 14) (hk : 4 ≤ kn ∧ kn ≤ 24) (h19 : μ1 45 19 = kn)
    (hq : ∀ i, μ (p + 9) g ≤ i → i < μ (p + 9) g + μ (p + 10) g → μ1 56 i = hf i ∧ -12 ≤ hf i ∧ hf i ≤ 12) : RGs (ddF μ p hf kn g) (μ (p + 9) g) g μ1 := by
  have h1 := hC.pg.fl hg
  have h3 := hC.pg.gr
  have e0 := e p (by omega)
  refine hJ.rgf hC e h1 (by omega) ?_ ?_ hk h19 (fun i a b => ?_) hq
  · rw [hJ.gf (by rw [e0]; exact hg), e (p + 9) (by omega)]
  · rw [hJ.gm (by rw [e0]; exact hg), e (p + 10) (by omega)]
  · have h4 := hC.pg.of hg ⟨a, b⟩
    exact ⟨by omega, hC.bm hg ⟨a, b⟩⟩
theorem RJz.rag {μ μ1 : Mu} {p kn : Int} {hf : Int → Int} (hJ : RJz μ1 p) (hC : CJ μ p) (e : ∀ o : Int, p ≤ o ∧ o ≤ p + 10 → μ1 o = μ o) (hk : 4 ≤ kn ∧ kn ≤ 24) (h19 : μ1 45 19 = kn)
    (hq : ∀ i, 0 ≤ i → i < μ p 7 → μ (p + 4) i = 1 → μ1 56 i = hf i ∧ -12 ≤ hf i ∧ hf i ≤ 12) : RAg (ddF μ p hf kn) (μ (p + 9)) (μ p 14) μ1 := by
  refine ⟨⟨hJ.f17.trans (congrFun (e p (by omega)) _), hC.pg.gr⟩, fun g h1 h2 => hJ.rgs hC e ⟨h1, h2⟩ hk h19 (fun i a b => ?_)⟩
  have h4 := hC.pg.of ⟨h1, h2⟩ ⟨a, b⟩
  have h5 := hC.pg.fl ⟨h1, h2⟩
  exact hq i (by omega) (by omega) h4.2.1
/-! more words -/
theorem sq_of {D : GDt} {l r : Int} (h : GOK D) (h1 : -60 ≤ l ∧ l ≤ 60) (h2 : -60 ≤ r ∧ r ≤ 60) (h3 : -8 ≤ r - l ∧ r - l ≤ 8) (ha : alwB D (r - l) l = true) : ∃ j, (0 ≤ j ∧ j < nS D) ∧ sq D j = (l, r) := by
  have hn := h.n
  exact sq_all ((setsD_mem (by omega) _).mpr ⟨⟨⟨h1, by show -60 ≤ l + (r - l) ∧ l + (r - l) ≤ 60; omega⟩, h3⟩, (alwB_iff (by omega)).mp ha⟩)
theorem sq_alw {D : GDt} {l r j : Int} (h : GOK D) (hj : 0 ≤ j ∧ j < nS D) (e : sq D j = (l, r)) : alwB D (r - l) l = true ∧ keyq D (sq D j) = key D (r - l) l := by
  have hn := h.n
  have h1 := (sq_in h hj).2
  rw [e] at h1 ⊢
  exact ⟨(alwB_iff (by omega)).mpr h1, rfl⟩
theorem hgt_lr (D : GDt) (l r a : Int) : l * (spn D - dX D a) + r * dX D a = l * spn D + (r - l) * dX D a := by
  rw [Int.mul_sub, Int.sub_mul]; omega
theorem dB_k {μ : Mu} {p g kn j : Int} (hC : CJ μ p) (hg : 0 ≤ g ∧ g < μ p 14) (hj : 0 ≤ j ∧ j < μ (p + 10) g) : dB (ddt μ p (p + 5) kn g) j = bok (μ (p + 3) (μ (p + 9) g + j)) := by
  have h1 := hC.pg.fl hg
  have h2 := hC.pg.of hg (i := μ (p + 9) g + j) ⟨by omega, by omega⟩
  have h3 : dB (ddt μ p (p + 5) kn g) j = bmz μ p (μ (p + 9) g + j) := gdt_b hj
  rw [h3, (hC.bg (i := μ (p + 9) g + j) (by omega) (by omega)).1]
theorem tchA_r {D : GDt} {e k a h z : Int} (hn : ¬ mnK D = 9223372036854775807) (ha : a = if e = 0 then 0 else dN D - 1) (hh : h = if e = 0 then bL D else bR D) (hz : z = if tat (h - way D a * 3 * k) = -1 then -3 else tat (h - way D a * 3 * k)) : z = tchA D e k := by
  unfold tchA
  rw [if_neg hn, ← ha, ← hh, hz]
  generalize h - way D a * 3 * k = q
  unfold tat
  repeat' split <;> omega
theorem stf_e (D : GDt) (w : Int) : tls D 0 0 w = tls D 0 0 w := rfl
/-- the beams of a neighbour, as the reference asks for them -/
theorem bmn_a {μ : Mu} {p i k : Int} (h : CJ μ p) (hi : 0 ≤ i ∧ i < μ p 7) (hg : 0 ≤ μ (p + 8) i) : (if (0 ≤ k ∧ k < μ p 7) ∧ μ (p + 8) k = μ (p + 8) i then bok (μ (p + 3) k) else 0) = bmn μ p i k := by
  by_cases ht : tgt μ p i k
  · rw [if_pos ⟨⟨ht.2.1, ht.2.2.2.1⟩, ht.2.2.2.2.2.symm⟩, bmn_b h ht]
  · rw [bmn_no ht, if_neg (fun q => ht ⟨hi.1, q.1.1, hi.2, q.1.2, hg, q.2.symm⟩)]
/-- stubs to the left: as the reference asks it -/
theorem sgl_r {μ : Mu} {p i : Int} (h : CJ μ p) (hi : 0 ≤ i ∧ i < μ p 7) (hg : 0 ≤ μ (p + 8) i) : sgl μ p i ↔ (¬ i = μ (p + 9) (μ (p + 8) i) ∧ (i = μ (p + 9) (μ (p + 8) i) + μ (p + 10) (μ (p + 8) i) - 1 ∨ bmn μ p i (i + 1) < bmn μ p i (i - 1) ∨ (bmn μ p i (i - 1) = bmn μ p i (i + 1) ∧ twn μ p i / lok (μ (p + 3) i) % 2 = 1))) := by
  have hl := tgt_l h hi hg
  have hr := tgt_r h hi hg
  have hk := lok_r (μ (p + 3) i)
  have hm : max 1 (lok (μ (p + 3) i)) = lok (μ (p + 3) i) := by omega
  unfold sgl
  rw [hm]
  by_cases h1 : tgt μ p i (i - 1)
  · have h2 := hl.mp h1
    by_cases h3 : tgt μ p i (i + 1)
    · have h4 := hr.mp h3
      have e1 : bmn μ p i (i - 1) = bmz μ p (i - 1) := if_pos h1
      have e2 : bmn μ p i (i + 1) = bmz μ p (i + 1) := if_pos h3
      rw [e1, e2]
      constructor
      · rintro ⟨-, q | q | q⟩
        · exact absurd h3 q
        · exact ⟨h2, Or.inr (Or.inl (by omega))⟩
        · exact ⟨h2, Or.inr (Or.inr ⟨by omega, q.2⟩)⟩
      · rintro ⟨-, q | q | q⟩
        · exact absurd q h4
        · exact ⟨h1, Or.inr (Or.inl (by omega))⟩
        · exact ⟨h1, Or.inr (Or.inr ⟨by omega, q.2⟩)⟩
    · refine ⟨fun _ => ⟨h2, Or.inl ?_⟩, fun _ => ⟨h1, Or.inl h3⟩⟩
      by_cases q : i = μ (p + 9) (μ (p + 8) i) + μ (p + 10) (μ (p + 8) i) - 1
      · exact q
      · exact absurd (hr.mpr q) h3
  · constructor
    · intro q; exact absurd q.1 h1
    · intro q; exact absurd (hl.mpr q.1) h1
/-- the stubs of a note, as the reference counts them -/
theorem stb_r2 {μ : Mu} {p i m : Int} (hm : m = if bmn μ p i (i + 1) < bmn μ p i (i - 1) then bmn μ p i (i - 1) else bmn μ p i (i + 1)) : (if m < bmz μ p i then bmz μ p i - m else 0) = stb μ p i := by
  unfold stb
  rw [bml_n, bmr_n]
  have h1 := bmz_r μ p i
  have h2 := bmn_r μ p i (i - 1)
  have h3 := bmn_r μ p i (i + 1)
  omega
