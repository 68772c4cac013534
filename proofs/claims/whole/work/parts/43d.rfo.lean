/-! ===== What would be, as the reference finds it ===== -/
theorem RJz.of2 {μ μ1 : Mu} {p c d : Int} (hI : p = 20 ∨ p = 31) (hF : Fr 45 45 c d μ1 μ) (hc : 42 ≤ c) (h : RJz μ1 p) (h19 : μ1 45 19 = μ p 3) (h56 : ∀ i, 0 ≤ i → i < μ p 7 → μ1 56 i = μ (p + 5) i) : RJ μ1 p := by
  refine h.of ?_ ?_
  · rw [hF.at (o := p) (by omega) (by omega)]; exact h19
  · rw [hF.at (o := p) (by omega) (by omega), hF.at (o := p + 5) (by omega) (by omega)]; exact h56
theorem shF_cg {μ μ1 : Mu} {p t j : Int} (e : ∀ o : Int, p ≤ o ∧ o ≤ p + 10 → μ1 o = μ o) : shF μ1 p t j = shF μ p t j := by
  unfold shF; rw [e (p + 4) (by omega), e (p + 5) (by omega)]
theorem shB_cg {μ μ1 : Mu} {p t : Int} (e : ∀ o : Int, p ≤ o ∧ o ≤ p + 10 → μ1 o = μ o) : shB μ1 p t = shB μ p t := by
  unfold shB
  rw [e p (by omega)]
  unfold shI
  exact itr_cg (fun i x _ _ => by rw [shF_cg e])
theorem shI_am {μ : Mu} {p t i b : Int} (h : 0 ≤ i) (hb : b = am_b (shI μ p t i = true)) : (if ¬ b = 0 then (if -12 ≤ shF μ p t i ∧ shF μ p t i ≤ 12 then 1 else 0) else 0) = am_b (shI μ p t (i + 1) = true) := by
  rw [shI_s h, hb]
  unfold am_b
  by_cases h1 : shI μ p t i = true
  · by_cases h2 : -12 ≤ shF μ p t i ∧ shF μ p t i ≤ 12
    · simp [h1, h2]
    · simp [h1, h2]
  · simp [h1]
/-- the shift, found from below -/
def asd (μ : Mu) (p t : Int) : Int := (tst (ddS μ p t) (μ p 14)).2.1
def asu (μ : Mu) (p t : Int) : Int := (tst (ddS μ p t) (μ p 14)).1
def srL (μ : Mu) (p b t : Int) : Prop := asd μ p b < asd μ p t ∨ (asd μ p b = asd μ p t ∧ (asu μ p b < asu μ p t ∨ (asu μ p b = asu μ p t ∧ (ab b < ab t ∨ (ab b = ab t ∧ b ≤ t)))))
def srQ (μ : Mu) (p t b fe le : Int) : Prop := (b = -1000000 ∧ ∀ t', -12 ≤ t' → t' < t → ¬ shB μ p t' = true) ∨ ((-12 ≤ b ∧ b < t) ∧ shB μ p b = true ∧ fe = asd μ p b ∧ le = asu μ p b ∧ ∀ t', -12 ≤ t' → t' < t → shB μ p t' = true → srL μ p b t')
theorem srQ_0 {μ : Mu} {p fe le : Int} : srQ μ p (-12) (-1000000) fe le := Or.inl ⟨rfl, fun t' h1 h2 => by omega⟩
theorem srQ_no {μ : Mu} {p t b fe le : Int} (h : srQ μ p t b fe le) (hb : ¬ shB μ p t = true) : srQ μ p (t + 1) b fe le := by
  rcases h with ⟨h1, h2⟩ | ⟨h1, h2, h3, h4, h5⟩
  · refine Or.inl ⟨h1, fun t' a c => ?_⟩
    by_cases e : t' = t
    · rw [e]; exact hb
    · exact h2 t' a (by omega)
  · refine Or.inr ⟨by omega, h2, h3, h4, fun t' a c d => ?_⟩
    by_cases e : t' = t
    · rw [e] at d; exact absurd d hb
    · exact h5 t' a (by omega) d
theorem srQ_keep {μ : Mu} {p t b fe le : Int} (h : srQ μ p t b fe le) (hn : ¬ b = -1000000) (ht : -12 ≤ t) (hc : fe < asd μ p t ∨ (fe = asd μ p t ∧ (le < asu μ p t ∨ (le = asu μ p t ∧ ab b ≤ ab t)))) : srQ μ p (t + 1) b fe le := by
  rcases h with ⟨h1, h2⟩ | ⟨h1, h2, h3, h4, h5⟩
  · exact absurd h1 hn
  · refine Or.inr ⟨by omega, h2, h3, h4, fun t' a c d => ?_⟩
    by_cases e : t' = t
    · rw [e]; unfold srL; omega
    · exact h5 t' a (by omega) d
theorem srQ_take {μ : Mu} {p t b fe le fe' le' : Int} (h : srQ μ p t b fe le) (ht : -12 ≤ t) (hb : shB μ p t = true) (h3 : fe' = asd μ p t) (h4 : le' = asu μ p t) (hc : b = -1000000 ∨ asd μ p t < fe ∨ (asd μ p t = fe ∧ (asu μ p t < le ∨ (asu μ p t = le ∧ ab t < ab b)))) : srQ μ p (t + 1) t fe' le' := by
  refine Or.inr ⟨by omega, hb, h3, h4, fun t' a c d => ?_⟩
  by_cases e : t' = t
  · rw [e]; unfold srL; omega
  · rcases h with ⟨g1, g2⟩ | ⟨g1, g2, g3, g4, g5⟩
    · exact absurd d (g2 t' a (by omega))
    · have := g5 t' a (by omega) d
      unfold srL at *
      omega
theorem ow_in {t : Int} (h : -12 ≤ t ∧ t ≤ 12) : ∃ s, (0 ≤ s ∧ s < 25) ∧ ow s = t := by
  by_cases ht : t < 0
  · refine ⟨-2 * t - 1, by omega, ?_⟩
    unfold ow
    rw [if_neg (by omega)]
    omega
  · refine ⟨2 * t, by omega, ?_⟩
    unfold ow
    rw [if_pos (by omega)]
    omega
theorem ow_ord {s s' : Int} (h : 0 ≤ s) (h' : 0 ≤ s') : s ≤ s' ↔ (ab (ow s) < ab (ow s') ∨ (ab (ow s) = ab (ow s') ∧ ow s ≤ ow s')) := by
  unfold ab ow
  constructor
  · intro q; omega
  · intro q; omega
theorem srQ_end {μ : Mu} {p b fe le : Int} (hC : CJ μ p) (h : srQ μ p 13 b fe le) : shR μ p b := by
  rcases h with ⟨h1, h2⟩ | ⟨h1, h2, h3, h4, h5⟩
  · exact absurd (shB_0 hC) (h2 0 (by omega) (by omega))
  · obtain ⟨s0, hs0, e0⟩ := ow_in (t := b) (by omega)
    refine ⟨s0, hs0, by rw [e0]; exact h2, e0.symm, fun s' a c d => ?_⟩
    have hr := ow_r a
    have g := h5 (ow s') (by omega) (by omega) d
    have hw1 := wor_r hC h2
    have hw2 := wor_r hC d
    have ho := ow_ord hs0.1 a
    rw [e0] at ho ⊢
    unfold srL asd asu at g
    unfold wor at *
    omega
/-- the wish, found from below -/
def wrL (μ : Mu) (p i b t : Int) : Prop := bU (ddP μ p i b) < bU (ddP μ p i t) ∨ (bU (ddP μ p i b) = bU (ddP μ p i t) ∧ (ab (b - μ (p + 5) i) < ab (t - μ (p + 5) i) ∨ (ab (b - μ (p + 5) i) = ab (t - μ (p + 5) i) ∧ b ≤ t)))
def wrK (μ : Mu) (p i t : Int) : Prop := ¬ mnK (ddP μ p i t) = 9223372036854775807
def wrQ (μ : Mu) (p i t b le : Int) : Prop := (b = -1000000 ∧ ∀ t', -12 ≤ t' → t' < t → ¬ wrK μ p i t') ∨ ((-12 ≤ b ∧ b < t) ∧ wrK μ p i b ∧ le = bU (ddP μ p i b) ∧ ∀ t', -12 ≤ t' → t' < t → wrK μ p i t' → wrL μ p i b t')
theorem wrQ_0 {μ : Mu} {p i le : Int} : wrQ μ p i (-12) (-1000000) le := Or.inl ⟨rfl, fun t' h1 h2 => by omega⟩
theorem wrQ_no {μ : Mu} {p i t b le : Int} (h : wrQ μ p i t b le) (hb : ¬ wrK μ p i t) : wrQ μ p i (t + 1) b le := by
  rcases h with ⟨h1, h2⟩ | ⟨h1, h2, h3, h5⟩
  · refine Or.inl ⟨h1, fun t' a c => ?_⟩
    by_cases e : t' = t
    · rw [e]; exact hb
    · exact h2 t' a (by omega)
  · refine Or.inr ⟨by omega, h2, h3, fun t' a c d => ?_⟩
    by_cases e : t' = t
    · rw [e] at d; exact absurd d hb
    · exact h5 t' a (by omega) d
theorem wrQ_keep {μ : Mu} {p i t b le u : Int} (h : wrQ μ p i t b le) (hn : ¬ b = -1000000) (ht : -12 ≤ t) (hu : u = bU (ddP μ p i t)) (hc : le < u ∨ (le = u ∧ ab (b - μ (p + 5) i) ≤ ab (t - μ (p + 5) i))) : wrQ μ p i (t + 1) b le := by
  rcases h with ⟨h1, h2⟩ | ⟨h1, h2, h3, h5⟩
  · exact absurd h1 hn
  · refine Or.inr ⟨by omega, h2, h3, fun t' a c d => ?_⟩
    by_cases e : t' = t
    · rw [e]; unfold wrL; omega
    · exact h5 t' a (by omega) d
theorem wrQ_take {μ : Mu} {p i t b le u : Int} (h : wrQ μ p i t b le) (ht : -12 ≤ t) (hb : wrK μ p i t) (hu : u = bU (ddP μ p i t)) (hc : b = -1000000 ∨ u < le ∨ (u = le ∧ ab (t - μ (p + 5) i) < ab (b - μ (p + 5) i))) : wrQ μ p i (t + 1) t u := by
  refine Or.inr ⟨by omega, hb, hu, fun t' a c d => ?_⟩
  by_cases e : t' = t
  · rw [e]; unfold wrL; omega
  · rcases h with ⟨g1, g2⟩ | ⟨g1, g2, g3, g5⟩
    · exact absurd d (g2 t' a (by omega))
    · have := g5 t' a (by omega) d
      unfold wrL at *
      omega
theorem ow_in2 {t : Int} (h : -24 ≤ t ∧ t ≤ 24) : ∃ s, (0 ≤ s ∧ s < 50) ∧ ow s = t := by
  by_cases ht : t < 0
  · refine ⟨-2 * t - 1, by omega, ?_⟩
    unfold ow
    rw [if_neg (by omega)]
    omega
  · refine ⟨2 * t, by omega, ?_⟩
    unfold ow
    rw [if_pos (by omega)]
    omega
theorem wrQ_end {μ : Mu} {p i b le : Int} (hC : CJ μ p) (hi : 0 ≤ i ∧ i < μ p 7) (h : wrQ μ p i 13 b le) : wiR μ p i b := by
  have hh := hC.i.hd (q := p + 5) rfl hi
  rcases h with ⟨h1, h2⟩ | ⟨h1, h2, h3, h5⟩
  · exact ⟨2147483647, Or.inl ⟨rfl, h1, fun s' a c d => h2 _ d.1.1 (by have := d.1.2; omega) d.2⟩⟩
  · obtain ⟨s0, hs0, e0⟩ := ow_in2 (t := b - μ (p + 5) i) (by omega)
    have e1 : μ (p + 5) i + ow s0 = b := by omega
    refine ⟨le, Or.inr ⟨s0, hs0, ⟨by omega, by rw [e1]; exact h2⟩, e1.symm, by unfold wug; rw [e1]; exact h3, fun s' a c d => ?_⟩⟩
    have g := h5 (μ (p + 5) i + ow s') d.1.1 (by have := d.1.2; omega) d.2
    have ho := ow_ord hs0.1 a
    rw [e0] at ho
    unfold wrL at g
    unfold wug
    rw [e1]
    rw [show μ (p + 5) i + ow s' - μ (p + 5) i = ow s' by omega] at g
    omega
/-- one alone, as the reference tells it -/
theorem sglA_r {μ : Mu} {p i w wy pl mi ln z : Int} (hn : μ (p + 4) i = 1) (hh : -12 ≤ μ (p + 5) i ∧ μ (p + 5) i ≤ 12) (hw : wy = if 0 ≤ μ (p + 5) i then -1 else 1) (hp : pl = if bok (μ (p + 3) i) < 2 then 14 else if bok (μ (p + 3) i) = 2 then 15 else 17) (hm : mi = -2 * μ (p + 5) i * wy) (hl : ln = if pl < mi then mi else pl) (hz : z = if w = 0 then wy else if w = 1 then ln else 2 * μ (p + 5) i + wy * ln) : z = sglA μ p i w := by
  have hb : bmz μ p i = bok (μ (p + 3) i) := by unfold bmz; rw [if_neg (by omega)]
  have hbr := bok_r (μ (p + 3) i)
  have hid : idl (bmz μ p i) wy (μ (p + 5) i) = ln := by
    rw [hb, hl, hm, hp]
    unfold idl usu ab
    generalize μ (p + 5) i = h at *
    have hw1 : wy = -1 ∨ wy = 1 := by omega
    rcases hw1 with e | e <;> subst e <;> omega
  unfold sglA
  rw [← hw, hid]
  exact hz
