/-! ===== Stretches, cuts, times, as the reference finds them ===== -/
theorem bml_r1 (μ : Mu) (p i : Int) : bml μ p i = bmr μ p (i - 1) := by
  unfold bml bmr
  rw [show i - 1 + 1 = i by omega]
  by_cases h : tgt μ p i (i - 1)
  · have h2 : tgt μ p (i - 1) i := ⟨h.2.1, h.1, h.2.2.2.1, h.2.2.1, by have := h.2.2.2.2.1; have := h.2.2.2.2.2; omega, h.2.2.2.2.2.symm⟩
    rw [if_pos h, if_pos h2]; omega
  · have h2 : ¬ tgt μ p (i - 1) i := fun q => h ⟨q.2.1, q.1, q.2.2.2.1, q.2.2.1, by have := q.2.2.2.2.1; have := q.2.2.2.2.2; omega, q.2.2.2.2.2.symm⟩
    rw [if_neg h, if_neg h2]
theorem bmr_last {μ : Mu} {p g i : Int} (hC : CJ μ p) (hg : 0 ≤ g ∧ g < μ p 14) (hi : i = μ (p + 9) g + μ (p + 10) g - 1) : bmr μ p i = 0 := by
  have h1 := hC.pg.fl hg
  have h2 := hC.pg.of hg (i := i) ⟨by omega, by omega⟩
  unfold bmr
  rw [if_neg]
  intro q
  refine (tgt_r hC ⟨q.1, q.2.2.1⟩ q.2.2.2.2.1).mp q ?_
  rw [h2.1]; exact hi
theorem bml_first {μ : Mu} {p g i : Int} (hC : CJ μ p) (hg : 0 ≤ g ∧ g < μ p 14) (hi : i = μ (p + 9) g) : bml μ p i = 0 := by
  have h1 := hC.pg.fl hg
  have h2 := hC.pg.of hg (i := i) ⟨by omega, by omega⟩
  unfold bml
  rw [if_neg]
  intro q
  refine (tgt_l hC ⟨q.1, q.2.2.1⟩ q.2.2.2.2.1).mp q ?_
  rw [h2.1]; exact hi
/-- in a group, before its last note, the beams that go on are the lesser of both notes' -/
theorem bmr_in {μ : Mu} {p g i : Int} (hC : CJ μ p) (hg : 0 ≤ g ∧ g < μ p 14) (hi : μ (p + 9) g ≤ i ∧ i + 1 < μ (p + 9) g + μ (p + 10) g) : bmr μ p i = min (bok (μ (p + 3) i)) (bok (μ (p + 3) (i + 1))) := by
  have h1 := hC.pg.fl hg
  have h2 := hC.pg.of hg (i := i) ⟨by omega, by omega⟩
  have h3 := hC.pg.of hg (i := i + 1) ⟨by omega, by omega⟩
  unfold bmr
  rw [if_pos ⟨by omega, by omega, by omega, by omega, by omega, by omega⟩, (hC.bg (i := i) (by omega) (by omega)).1, (hC.bg (i := i + 1) (by omega) (by omega)).1]
theorem stN_z {μ : Mu} {p k f a : Int} (ha : 0 ≤ a) : ∀ (n : Nat), (∀ j, a ≤ j → j < a + n → ¬ (k ≤ bmr μ p (f + j) ∧ bml μ p (f + j) < k)) → stN μ p k f (a + n) = stN μ p k f a := by
  intro n
  induction n with
  | zero => intro _; simp
  | succ n ih =>
    intro h
    rw [show a + ((n + 1 : Nat) : Int) = a + (n : Int) + 1 by omega, stN_s (by omega), ih (fun j h1 h2 => h j h1 (by omega)), if_neg (h (a + n) (by omega) (by omega))]
    omega
theorem stN_zz {μ : Mu} {p k f a b : Int} (ha : 0 ≤ a) (hb : a ≤ b) (h : ∀ j, a ≤ j → j < b → ¬ (k ≤ bmr μ p (f + j) ∧ bml μ p (f + j) < k)) : stN μ p k f b = stN μ p k f a := by
  have h1 := stN_z (μ := μ) (p := p) (k := k) (f := f) ha (b - a).toNat (fun j q1 q2 => h j q1 (by omega))
  rw [show a + (((b - a).toNat : Nat) : Int) = b by omega] at h1
  exact h1
theorem stN_m {μ : Mu} {p k f : Int} {a : Int} (ha : 0 ≤ a) : ∀ (n : Nat), stN μ p k f a ≤ stN μ p k f (a + n) := by
  intro n
  induction n with
  | zero => simp
  | succ n ih =>
    rw [show a + ((n + 1 : Nat) : Int) = a + (n : Int) + 1 by omega, stN_s (by omega)]
    split <;> omega
theorem stN_mm {μ : Mu} {p k f a b : Int} (ha : 0 ≤ a) (hb : a ≤ b) : stN μ p k f a ≤ stN μ p k f b := by
  have h1 := stN_m (μ := μ) (p := p) (k := k) (f := f) ha (b - a).toNat
  rw [show a + (((b - a).toNat : Nat) : Int) = b by omega] at h1
  exact h1
/-- where the n-th stretch of a group begins; -1: there is none -/
def SA (μ : Mu) (p k f m n b : Int) : Prop := (b = -1 ∧ stN μ p k f m ≤ n) ∨ ((f ≤ b ∧ b < f + m) ∧ k ≤ bmr μ p b ∧ bml μ p b < k ∧ stN μ p k f (b - f) = n)
/-- what the search from a place on finds -/
def SF (μ : Mu) (p k a e b : Int) : Prop := (b = -1 ∧ ∀ j, a ≤ j → j < e → ¬ k ≤ bmr μ p j) ∨ ((a ≤ b ∧ b < e) ∧ k ≤ bmr μ p b ∧ ∀ j, a ≤ j → j < b → ¬ k ≤ bmr μ p j)
def SE (μ : Mu) (p k b e z : Int) : Prop := (b ≤ z ∧ z < e) ∧ ¬ k ≤ bmr μ p z ∧ ∀ j, b ≤ j → j < z → k ≤ bmr μ p j
theorem SA_0 {μ : Mu} {p k g b : Int} (hC : CJ μ p) (hg : 0 ≤ g ∧ g < μ p 14) (hk : 1 ≤ k) (h : SF μ p k (μ (p + 9) g) (μ (p + 9) g + μ (p + 10) g) b) : SA μ p k (μ (p + 9) g) (μ (p + 10) g) 0 b := by
  have h1 := hC.pg.fl hg
  rcases h with ⟨h2, h3⟩ | ⟨h2, h3, h4⟩
  · refine Or.inl ⟨h2, ?_⟩
    rw [stN_zz (a := 0) (by omega) (by omega) (fun j a c q => h3 _ (by omega) (by omega) q.1)]
    show (0 : Int) ≤ 0
    omega
  · refine Or.inr ⟨h2, h3, ?_, ?_⟩
    · by_cases e : b = μ (p + 9) g
      · rw [bml_first hC hg e]; omega
      · rw [bml_r1]
        have := h4 (b - 1) (by omega) (by omega)
        omega
    · rw [stN_zz (a := 0) (by omega) (by omega) (fun j a c q => h4 _ (by omega) (by omega) q.1)]
      rfl
theorem SA_s {μ : Mu} {p k g n b z b' : Int} (hC : CJ μ p) (hg : 0 ≤ g ∧ g < μ p 14) (hk : 1 ≤ k) (h : SA μ p k (μ (p + 9) g) (μ (p + 10) g) n b) (hb : ¬ b = -1) (he : SE μ p k b (μ (p + 9) g + μ (p + 10) g) z) (hf : SF μ p k z (μ (p + 9) g + μ (p + 10) g) b') : SA μ p k (μ (p + 9) g) (μ (p + 10) g) (n + 1) b' := by
  have h1 := hC.pg.fl hg
  rcases h with ⟨h2, -⟩ | ⟨h2, h3, h4, h5⟩
  · exact absurd h2 hb
  obtain ⟨g1, g2, g3⟩ := he
  have e1 : stN μ p k (μ (p + 9) g) (b - μ (p + 9) g + 1) = n + 1 := by
    rw [stN_s (by omega), h5, show μ (p + 9) g + (b - μ (p + 9) g) = b by omega, if_pos ⟨h3, h4⟩]
  have e2 : ∀ c, b + 1 ≤ c → (∀ j, z ≤ j → j < c → ¬ k ≤ bmr μ p j) → stN μ p k (μ (p + 9) g) (c - μ (p + 9) g) = n + 1 := by
    intro c hc hz
    rw [stN_zz (a := b - μ (p + 9) g + 1) (by omega) (by omega) ?_, e1]
    intro j a d q
    by_cases hj : μ (p + 9) g + j < z + 1
    · have := g3 (μ (p + 9) g + j - 1) (by omega) (by omega)
      rw [bml_r1] at q
      omega
    · exact hz (μ (p + 9) g + j) (by omega) (by omega) q.1
  have hzb : b < z := by
    by_cases e : b = z
    · rw [e] at h3; exact absurd h3 g2
    · omega
  rcases hf with ⟨f1, f2⟩ | ⟨f1, f2, f3⟩
  · refine Or.inl ⟨f1, ?_⟩
    have := e2 (μ (p + 9) g + μ (p + 10) g) (by omega) f2
    rw [show μ (p + 9) g + μ (p + 10) g - μ (p + 9) g = μ (p + 10) g by omega] at this
    omega
  · have hzb' : z < b' := by
      by_cases e : z = b'
      · rw [← e] at f2; exact absurd f2 g2
      · omega
    refine Or.inr ⟨by omega, f2, ?_, ?_⟩
    · rw [bml_r1]
      have := f3 (b' - 1) (by omega) (by omega)
      omega
    · exact e2 b' (by omega) f3
theorem SA_no {μ : Mu} {p k f m n n' : Int} (h : SA μ p k f m n (-1)) (hf : 0 ≤ f) (hn : n ≤ n') : SA μ p k f m n' (-1) := by
  rcases h with ⟨h2, h3⟩ | ⟨h2, -⟩
  · exact Or.inl ⟨rfl, by omega⟩
  · omega
theorem SA_more {μ : Mu} {p k f m n b : Int} (h : SA μ p k f m n b) (hb : ¬ b = -1) : n + 1 ≤ stN μ p k f m := by
  rcases h with ⟨h2, -⟩ | ⟨h2, h3, h4, h5⟩
  · exact absurd h2 hb
  · have e1 : stN μ p k f (b - f + 1) = n + 1 := by
      rw [stN_s (by omega), h5, show f + (b - f) = b by omega, if_pos ⟨h3, h4⟩]
    have := stN_mm (μ := μ) (p := p) (k := k) (f := f) (a := b - f + 1) (b := m) (by omega) (by omega)
    omega
theorem SA_end {μ : Mu} {p k f m n : Int} (h : SA μ p k f m n (-1)) (hf : 0 ≤ f) : stN μ p k f m ≤ n := by
  rcases h with ⟨h2, h3⟩ | ⟨h2, -⟩
  · exact h3
  · omega
theorem rn_at {sz : Int} {c : Int → Bool} : ∀ (n : Nat) (a z : Int), (z - a).toNat = n → a ≤ z → z < sz → ¬ c z = true → (∀ j, a ≤ j → j < z → c j = true) → rn sz c a = z := by
  intro n
  induction n with
  | zero =>
    intro a z h1 h2 h3 h4 h5
    have : a = z := by omega
    subst this
    exact rn_no h4
  | succ n ih =>
    intro a z h1 h2 h3 h4 h5
    rw [rn_go (by omega) (h5 a (by omega) (by omega))]
    exact ih (a + 1) z (by omega) (by omega) h3 h4 (fun j q1 q2 => h5 j (by omega) q2)
theorem SE_ste {μ : Mu} {p k b e z : Int} (he : e ≤ μ p 7) (h : SE μ p k b e z) : ste μ p k b = z := by
  obtain ⟨h1, h2, h3⟩ := h
  unfold ste
  rw [rn_at (z - b).toNat b z rfl h1.1 (by omega) (by simpa using h2) (fun j q1 q2 => by simpa using h3 j q1 q2)]
  omega
theorem SA_stP {μ : Mu} {p k f m n b w z e : Int} (h : SA μ p k f m n b) (hb : ¬ b = -1) (hz : z = if w = 0 then b else if w = 1 then ste μ p k b else μ (p + 7) (ste μ p k b) - μ (p + 7) b) : stP μ p k f m n w z := by
  rcases h with ⟨h2, -⟩ | ⟨h2, h3, h4, h5⟩
  · exact absurd h2 hb
  · refine Or.inl ⟨b - f, by omega, ?_, h5, ?_⟩
    · rw [show f + (b - f) = b by omega]; exact ⟨h3, h4⟩
    · rw [show f + (b - f) = b by omega]; exact hz
/-- RJ where a slot behind the groups' changed -/
theorem RJ.of_s {μ μ1 : Mu} {p : Int} (h : RJ μ p) (hC : CJ μ p) (hF : Fr 45 45 54 61 μ1 μ) (hf : ∀ k : Int, ¬ k = 0 ∧ ¬ (21 ≤ k ∧ k ≤ 24) ∧ ¬ (29 ≤ k ∧ k ≤ 33) → μ1 45 k = μ 45 k) (h54 : ∀ j, 0 ≤ j → j < 32 → μ1 54 j = μ 54 j) (h55 : ∀ j, 0 ≤ j → j < 32 → μ1 55 j = μ 55 j) (h56 : μ1 56 = μ 56) : RJ μ1 p := by
  have hp := hC.i.at
  have hg := hC.pg.gr
  have e : ∀ o : Int, (p ≤ o ∧ o ≤ p + 10) ∨ (48 ≤ o ∧ o ≤ 53) → μ1 o = μ o := fun o q => hF.at (by omega) (by omega)
  refine ⟨?_, ?_, ?_⟩
  · rw [hf 1 (by omega), hf 2 (by omega), hf 5 (by omega), hf 7 (by omega), hf 17 (by omega), hf 19 (by omega), e p (by omega)]; exact h.1
  · rw [e p (by omega), e (p + 3) (by omega), e (p + 4) (by omega), e (p + 5) (by omega), e (p + 6) (by omega), e (p + 7) (by omega), e (p + 8) (by omega), e 48 (by omega), e 49 (by omega), e 50 (by omega), e 51 (by omega), e 52 (by omega), e 53 (by omega), h56]; exact h.2.1
  · rw [e p (by omega), e (p + 9) (by omega), e (p + 10) (by omega)]
    intro g h1 h2
    rw [h54 g h1 (by omega), h55 g h1 (by omega)]
    exact h.2.2 g h1 h2
theorem uglG_cg {μ μ1 : Mu} {p f m : Int} (e : ∀ o : Int, p ≤ o ∧ o ≤ p + 10 → μ1 o = μ o) : uglG μ1 p f m = uglG μ p f m := by
  unfold uglG gdt
  rw [e p (by omega)]
  exact gdtF_cg e (fun i _ _ => congrFun (e (p + 5) (by omega)) _)
/-- the reference's word for a part's UGLINESS -/
def uglR (D : Int → Int → GDt) (f m : Int) : Int := if m = 1 then 0 else ansB (D f m) 2
theorem uglR_P {D : Int → Int → GDt} {f m : Int} (h : m = 1 ∨ GOK (D f m)) : (uglR D f m = -1000000 ∧ uglP D f m = -2) ∨ (uglR D f m = uglP D f m ∧ 0 ≤ uglP D f m ∧ uglP D f m ≤ 5880) := by
  unfold uglR uglP
  by_cases hm : m = 1
  · rw [if_pos hm, if_pos hm]; omega
  · have hk := h.resolve_left hm
    rw [if_neg hm, if_neg hm, ansB_2 hk]
    by_cases hn : mnK (D f m) = 9223372036854775807
    · rw [if_pos hn, if_pos hn]; omega
    · rw [if_neg hn, if_neg hn]
      have := bU_r hk hn
      omega
theorem cutP_R {D : Int → Int → GDt} {f m k a b : Int} (h1 : k = 1 ∨ GOK (D f k)) (h2 : m - k = 1 ∨ GOK (D (f + k) (m - k))) (ha : a = uglR D f k) (hb : b = uglR D (f + k) (m - k)) : (if a = -1000000 then -2 else if b = -1000000 then -2 else a + b) = cutP D f m k ∧ -2 ≤ cutP D f m k ∧ cutP D f m k ≤ 11760 := by
  have g1 := uglR_P h1
  have g2 := uglR_P h2
  unfold cutP
  omega
theorem Fr.all {μ μ1 : Mu} (h : Fr 1 0 1 0 μ1 μ) : μ1 = μ := by funext o; exact h.at (by omega) (by omega)
theorem bmz_cg' {μ μ1 : Mu} {p : Int} (e : ∀ o : Int, p ≤ o ∧ o ≤ p + 10 → μ1 o = μ o) (i : Int) : bmz μ1 p i = bmz μ p i := bmz_cg e i
theorem bmr_cg {μ μ1 : Mu} {p : Int} (e : ∀ o : Int, p ≤ o ∧ o ≤ p + 10 → μ1 o = μ o) (i : Int) : bmr μ1 p i = bmr μ p i := by
  have ht : tgt μ1 p i (i + 1) ↔ tgt μ p i (i + 1) := by unfold tgt; rw [e p (by omega), e (p + 8) (by omega)]
  unfold bmr
  rw [bmz_cg e, bmz_cg e]
  by_cases h : tgt μ p i (i + 1)
  · rw [if_pos h, if_pos (ht.mpr h)]
  · rw [if_neg h, if_neg (fun q => h (ht.mp q))]
theorem bml_cg {μ μ1 : Mu} {p : Int} (e : ∀ o : Int, p ≤ o ∧ o ≤ p + 10 → μ1 o = μ o) (i : Int) : bml μ1 p i = bml μ p i := by
  rw [bml_r1, bml_r1, bmr_cg e]
theorem stN_cg {μ μ1 : Mu} {p k f n : Int} (e : ∀ o : Int, p ≤ o ∧ o ≤ p + 10 → μ1 o = μ o) : stN μ1 p k f n = stN μ p k f n := by
  unfold stN
  exact itr_cg (fun i x _ _ => by rw [bmr_cg e, bml_cg e])
theorem SA_cg {μ μ1 : Mu} {p k f m n b : Int} (e : ∀ o : Int, p ≤ o ∧ o ≤ p + 10 → μ1 o = μ o) : SA μ1 p k f m n b = SA μ p k f m n b := by
  unfold SA
  rw [bmr_cg e, bml_cg e, stN_cg e, stN_cg e]
theorem SE_cg {μ μ1 : Mu} {p k b f z : Int} (e : ∀ o : Int, p ≤ o ∧ o ≤ p + 10 → μ1 o = μ o) : SE μ1 p k b f z = SE μ p k b f z := by
  unfold SE
  simp only [bmr_cg e]
theorem tgt_cg {μ μ1 : Mu} {p i k : Int} (e : ∀ o : Int, p ≤ o ∧ o ≤ p + 10 → μ1 o = μ o) : tgt μ1 p i k ↔ tgt μ p i k := by unfold tgt; rw [e p (by omega), e (p + 8) (by omega)]
theorem bmn_cg {μ μ1 : Mu} {p i k : Int} (e : ∀ o : Int, p ≤ o ∧ o ≤ p + 10 → μ1 o = μ o) : bmn μ1 p i k = bmn μ p i k := by
  unfold bmn
  rw [bmz_cg e]
  by_cases h : tgt μ p i k
  · rw [if_pos h, if_pos ((tgt_cg e).mpr h)]
  · rw [if_neg h, if_neg (fun q => h ((tgt_cg e).mp q))]
theorem twn_cg {μ μ1 : Mu} {p i : Int} (e : ∀ o : Int, p ≤ o ∧ o ≤ p + 10 → μ1 o = μ o) : twn μ1 p i = twn μ p i := by
  unfold twn mlg
  rw [e p (by omega), e (p + 6) (by omega)]
theorem sgl_cg {μ μ1 : Mu} {p i : Int} (e : ∀ o : Int, p ≤ o ∧ o ≤ p + 10 → μ1 o = μ o) : sgl μ1 p i ↔ sgl μ p i := by
  unfold sgl
  rw [tgt_cg e, tgt_cg e, bmz_cg e, bmz_cg e, twn_cg e, e (p + 3) (by omega)]
