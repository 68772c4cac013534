/-! ===== The knee: what the search finds, whichever way it goes ===== -/
def cand (D : GDt) (lo hi : Int) : Prop := has D lo = true ∧ has D hi = true ∧ lo < hi ∧ (∀ q, lo < q → q < hi → ¬ has D q = true) ∧ dK D ≤ hi - lo
/-- (l, g, e) is not behind the pair lo, hi -/
def nbh (l g e lo hi : Int) : Prop := hi - lo < g ∨ (hi - lo = g ∧ (e < ab (lo + hi) ∨ (e = ab (lo + hi) ∧ l ≤ lo)))
section knee
variable {D : GDt}
theorem hasI_iff {p : Int} : ∀ (m : Nat), hasI D p (m : Int) = true ↔ ∃ i : Int, 0 ≤ i ∧ i < (m : Int) ∧ dH D i = p := by
  intro m
  induction m with
  | zero => exact ⟨fun h => (by cases h), fun ⟨i, h0, h1, _⟩ => (by omega)⟩
  | succ m ih =>
    rw [show ((m + 1 : Nat) : Int) = (m : Int) + 1 by omega, hasI_succ (by omega), Bool.or_eq_true, ih, decide_eq_true_eq]
    constructor
    · rintro (⟨i, h0, h1, h2⟩ | h)
      · exact ⟨i, h0, by omega, h2⟩
      · exact ⟨m, by omega, by omega, h⟩
    · rintro ⟨i, h0, h1, h2⟩
      by_cases hi : i = m
      · subst hi; exact Or.inr h2
      · exact Or.inl ⟨i, h0, by omega, h2⟩
theorem has_iff (hG : GOK D) {p : Int} : has D p = true ↔ ∃ i : Int, 0 ≤ i ∧ i < dN D ∧ dH D i = p := by
  have hn := hG.n
  have h := hasI_iff (D := D) (p := p) (dN D).toNat
  rw [show (((dN D).toNat : Nat) : Int) = dN D by omega] at h
  exact h
theorem has_r (hG : GOK D) {p : Int} (h : has D p = true) : -12 ≤ p ∧ p ≤ 12 := by
  obtain ⟨i, h0, h1, rfl⟩ := (has_iff hG).mp h
  exact hG.hr ⟨h0, h1⟩
/-- the search from below: what its four numbers are -/
def ksI (D : GDt) (s : Int) (t : KS) : Prop :=
  ((t.2.2.2 = 99 ∧ ∀ q, q < s - 12 → ¬ has D q = true) ∨ (t.2.2.2 < s - 12 ∧ has D t.2.2.2 = true ∧ ∀ q, t.2.2.2 < q → q < s - 12 → ¬ has D q = true)) ∧
  ((t.1 = 99 ∧ t.2.1 = 0 ∧ ∀ lo hi, cand D lo hi → s - 12 ≤ hi) ∨ (t.1 ≠ 99 ∧ cand D t.1 (t.1 + t.2.1) ∧ t.1 + t.2.1 < s - 12 ∧ t.2.2.1 = ab (t.1 + (t.1 + t.2.1)) ∧ ∀ lo hi, cand D lo hi → s - 12 ≤ hi ∨ nbh t.1 t.2.1 t.2.2.1 lo hi))
theorem ksI_mk {s l g n b : Int} (h1 : (b = 99 ∧ ∀ q, q < s - 12 → ¬ has D q = true) ∨ (b < s - 12 ∧ has D b = true ∧ ∀ q, b < q → q < s - 12 → ¬ has D q = true))
    (h2 : (l = 99 ∧ g = 0 ∧ ∀ lo hi, cand D lo hi → s - 12 ≤ hi) ∨ (l ≠ 99 ∧ cand D l (l + g) ∧ l + g < s - 12 ∧ n = ab (l + (l + g)) ∧ ∀ lo hi, cand D lo hi → s - 12 ≤ hi ∨ nbh l g n lo hi)) : ksI D s (l, g, n, b) := ⟨h1, h2⟩
theorem ksI_of {s l g n b : Int} (h : ksI D s (l, g, n, b)) : ((b = 99 ∧ ∀ q, q < s - 12 → ¬ has D q = true) ∨ (b < s - 12 ∧ has D b = true ∧ ∀ q, b < q → q < s - 12 → ¬ has D q = true)) ∧
    ((l = 99 ∧ g = 0 ∧ ∀ lo hi, cand D lo hi → s - 12 ≤ hi) ∨ (l ≠ 99 ∧ cand D l (l + g) ∧ l + g < s - 12 ∧ n = ab (l + (l + g)) ∧ ∀ lo hi, cand D lo hi → s - 12 ≤ hi ∨ nbh l g n lo hi)) := h
theorem kstep_no {p : Int} {t : KS} (h : ¬ has D p = true) : kstep D p t = t := if_neg h
theorem kstep_hit {p l g n b : Int} (hh : has D p = true) (h9 : b ≠ 99) (hc : dK D ≤ p - b ∧ (g < p - b ∨ p - b = g ∧ ab (p + b) < n)) : kstep D p (l, g, n, b) = (b, p - b, ab (p + b), p) := by
  unfold kstep
  rw [if_pos hh]
  simp only [if_neg h9]
  rw [if_pos hc]
theorem kstep_miss {p l g n b : Int} (hk : 4 ≤ dK D) (hh : has D p = true) (hc : b = 99 ∨ ¬ (dK D ≤ p - b ∧ (g < p - b ∨ p - b = g ∧ ab (p + b) < n))) : kstep D p (l, g, n, b) = (l, g, n, p) := by
  unfold kstep
  rw [if_pos hh]
  by_cases h9 : b = 99
  · simp only [if_pos h9]
    rw [if_neg (by omega)]
  · simp only [if_neg h9]
    rw [if_neg (fun z => hc.elim h9 (fun w => w z))]
theorem ks_step (hG : GOK D) {s l g n b : Int} (hs : 0 ≤ s ∧ s < 25) (hi : ksI D s (l, g, n, b)) : ksI D (s + 1) (kstep D (s - 12) (l, g, n, b)) := by
  have hk := hG.k
  obtain ⟨hb, hl⟩ := ksI_of hi
  by_cases hh : has D (s - 12) = true
  · have hlo : ∀ lo hi, cand D lo hi → hi = s - 12 → b ≠ 99 ∧ lo = b := by
      intro lo hi hc he
      subst he
      rcases hb with ⟨h1, h2⟩ | ⟨h1, h2, h3⟩
      · exact absurd hc.1 (h2 lo hc.2.2.1)
      · have hbr := has_r hG h2
        refine ⟨by omega, ?_⟩
        rcases Int.lt_trichotomy lo b with q | q | q
        · exact absurd h2 (hc.2.2.2.1 b q h1)
        · exact q
        · exact absurd hc.1 (h3 lo q hc.2.2.1)
    have hadj : b ≠ 99 → dK D ≤ s - 12 - b → cand D b (s - 12) := by
      intro hb9 hkk
      rcases hb with ⟨h1, h2⟩ | ⟨h1, h2, h3⟩
      · exact absurd h1 hb9
      · exact ⟨h2, hh, h1, fun q h4 h5 => h3 q h4 h5, hkk⟩
    by_cases hc : b ≠ 99 ∧ (dK D ≤ s - 12 - b ∧ (g < s - 12 - b ∨ s - 12 - b = g ∧ ab (s - 12 + b) < n))
    · rw [kstep_hit hh hc.1 hc.2]
      have hcd := hadj hc.1 hc.2.1
      have hbr := has_r hG hcd.1
      refine ksI_mk (Or.inr ⟨by omega, hh, fun q h4 h5 => by omega⟩) (Or.inr ⟨hc.1, ?_, by omega, ?_, ?_⟩)
      · rw [show b + (s - 12 - b) = s - 12 by omega]; exact hcd
      · congr 1; omega
      · intro lo hi hcc
        by_cases he : hi = s - 12
        · obtain ⟨-, rfl⟩ := hlo lo hi hcc he
          subst he
          refine Or.inr (Or.inr ⟨rfl, Or.inr ⟨?_, by omega⟩⟩)
          congr 1; omega
        · rcases hl with ⟨h1, h2, h3⟩ | ⟨h1, h2, h3, h4, h5⟩
          · have := h3 lo hi hcc; exact Or.inl (by omega)
          · rcases h5 lo hi hcc with q | q
            · exact Or.inl (by omega)
            · refine Or.inr ?_
              unfold nbh at q ⊢
              rcases hc.2.2 with w | w
              · left; omega
              · rcases q with q | q
                · left; omega
                · right
                  exact ⟨by omega, Or.inl (by omega)⟩
    · rw [kstep_miss (by omega) hh (by
        by_cases h9 : b = 99
        · exact Or.inl h9
        · exact Or.inr (fun z => hc ⟨h9, z⟩))]
      have hnb : ∀ lo hi, cand D lo hi → hi = s - 12 → (l = 99 → False) ∧ ab (lo + hi) = ab (s - 12 + b) ∧ ¬ (g < hi - lo ∨ hi - lo = g ∧ ab (s - 12 + b) < n) := by
        intro lo hi hcc he
        obtain ⟨hb9, rfl⟩ := hlo lo hi hcc he
        subst he
        have hkk := hcc.2.2.2.2
        refine ⟨fun hl9 => ?_, by congr 1; omega, fun q => hc ⟨hb9, hkk, q⟩⟩
        rcases hl with ⟨h1, h2, h3⟩ | ⟨h1, -⟩
        · exact hc ⟨hb9, hkk, Or.inl (by omega)⟩
        · exact h1 hl9
      refine ksI_mk (Or.inr ⟨by omega, hh, fun q h4 h5 => by omega⟩) ?_
      rcases hl with ⟨h1, h2, h3⟩ | ⟨h1, h2, h3, h4, h5⟩
      · refine Or.inl ⟨h1, h2, fun lo hi hcc => ?_⟩
        have h6 := h3 lo hi hcc
        by_cases he : hi = s - 12
        · exact absurd h1 (fun z => (hnb lo hi hcc he).1 z)
        · omega
      · refine Or.inr ⟨h1, h2, by omega, h4, fun lo hi hcc => ?_⟩
        by_cases he : hi = s - 12
        · obtain ⟨-, q1, q2⟩ := hnb lo hi hcc he
          have hll := hcc.2.2.1
          refine Or.inr ?_
          unfold nbh
          by_cases hg : hi - lo < g
          · exact Or.inl hg
          · have hge : hi - lo = g := by
              rcases Int.lt_trichotomy (hi - lo) g with z | z | z
              · exact absurd z hg
              · exact z
              · exact absurd (Or.inl z) q2
            have hn : ¬ ab (s - 12 + b) < n := fun z => q2 (Or.inr ⟨hge, z⟩)
            refine Or.inr ⟨hge, ?_⟩
            have hw : l ≤ lo := by omega
            rw [q1]
            rcases Int.lt_trichotomy n (ab (s - 12 + b)) with z | z | z
            · exact Or.inl z
            · exact Or.inr ⟨z, hw⟩
            · exact absurd z hn
        · rcases h5 lo hi hcc with z | z
          · exact Or.inl (by omega)
          · exact Or.inr z
  · rw [kstep_no hh]
    refine ksI_mk ?_ ?_
    · rcases hb with ⟨h1, h2⟩ | ⟨h1, h2, h3⟩
      · refine Or.inl ⟨h1, fun q hq => ?_⟩
        by_cases he : q = s - 12
        · rw [he]; exact hh
        · exact h2 q (by omega)
      · refine Or.inr ⟨by omega, h2, fun q h4 h5 => ?_⟩
        by_cases he : q = s - 12
        · rw [he]; exact hh
        · exact h3 q h4 (by omega)
    · have hne : ∀ lo hi, cand D lo hi → hi ≠ s - 12 := fun lo hi hcc he => hh (by rw [← he]; exact hcc.2.1)
      rcases hl with ⟨h1, h2, h3⟩ | ⟨h1, h2, h3, h4, h5⟩
      · exact Or.inl ⟨h1, h2, fun lo hi hcc => by have := h3 lo hi hcc; have := hne lo hi hcc; omega⟩
      · refine Or.inr ⟨h1, h2, by omega, h4, fun lo hi hcc => ?_⟩
        rcases h5 lo hi hcc with z | z
        · have := hne lo hi hcc; exact Or.inl (by omega)
        · exact Or.inr z
theorem ks_all (hG : GOK D) : ∀ m : Nat, m ≤ 25 → ksI D m (kst D m) := by
  intro m
  induction m with
  | zero =>
    intro _
    show ksI D 0 (99, 0, 0, 99)
    refine ksI_mk (Or.inl ⟨rfl, fun q hq h => ?_⟩) (Or.inl ⟨rfl, rfl, fun lo hi h => ?_⟩)
    · have := has_r hG h; omega
    · have := has_r hG h.2.1; omega
  | succ m ih =>
    intro hm
    have e : kst D ((m + 1 : Nat) : Int) = kstep D ((m : Int) - 12) (kst D m) := by
      rw [show ((m + 1 : Nat) : Int) = (m : Int) + 1 by omega]
      exact itr_succ (by omega)
    rw [e, show ((m + 1 : Nat) : Int) = (m : Int) + 1 by omega]
    have h := ih (by omega)
    revert h
    generalize kst D m = t
    intro h
    obtain ⟨l, g, n, b⟩ := t
    exact ks_step hG ⟨by omega, by omega⟩ h
/-- the knee: none, or the pair that no other is ahead of -/
theorem klow_is (hG : GOK D) : (klow D = 99 ∧ ∀ lo hi, ¬ cand D lo hi) ∨ (klow D ≠ 99 ∧ ∃ g, cand D (klow D) (klow D + g) ∧ ∀ lo hi, cand D lo hi → nbh (klow D) g (ab (klow D + (klow D + g))) lo hi) := by
  have h := (ks_all hG 25 (by decide)).2
  rcases h with ⟨h1, h2, h3⟩ | ⟨h1, h2, h3, h4, h5⟩
  · refine Or.inl ⟨h1, fun lo hi hc => ?_⟩
    have q := h3 lo hi hc
    have := has_r hG hc.2.1
    have e : ((25 : Nat) : Int) = 25 := rfl
    omega
  · refine Or.inr ⟨h1, _, h2, fun lo hi hc => ?_⟩
    rcases h5 lo hi hc with q | q
    · have := has_r hG hc.2.1
      have e : ((25 : Nat) : Int) = 25 := rfl
      omega
    · rw [h4] at q
      exact q
/-- two that no other is ahead of are one -/
theorem nbh_eq {l1 g1 l2 g2 : Int} (h1 : nbh l1 g1 (ab (l1 + (l1 + g1))) l2 (l2 + g2)) (h2 : nbh l2 g2 (ab (l2 + (l2 + g2))) l1 (l1 + g1)) : l1 = l2 ∧ g1 = g2 := by
  unfold nbh at h1 h2
  omega
/-- the law's search, note by note -/
def lkI (D : GDt) (i gap below near : Int) : Prop :=
  (gap = 0 ∧ below = 0 ∧ near = 0 ∧ ∀ j hi, 0 ≤ j → j < i → ¬ cand D (dH D j) hi) ∨ (gap ≠ 0 ∧ cand D below (below + gap) ∧ near = ab (below + (below + gap)) ∧ ∀ j hi, 0 ≤ j → j < i → cand D (dH D j) hi → nbh below gap near (dH D j) hi)
theorem lkI_0 : lkI D 0 0 0 0 := Or.inl ⟨rfl, rfl, rfl, fun j hi h0 h1 => by omega⟩
theorem lkI_end (hG : GOK D) {gap below near : Int} (h : lkI D (dN D) gap below near) : (gap = 0 ↔ klow D = 99) ∧ (gap ≠ 0 → below = klow D) := by
  have hk := hG.k
  rcases klow_is hG with ⟨k1, k2⟩ | ⟨k1, g, k2, k3⟩
  · rcases h with ⟨h1, -⟩ | ⟨h1, h2, -⟩
    · exact ⟨⟨fun _ => k1, fun _ => h1⟩, fun q => absurd h1 q⟩
    · exact absurd h2 (k2 _ _)
  · obtain ⟨j, j0, j1, j2⟩ := (has_iff hG).mp k2.1
    rcases h with ⟨h1, -, -, h2⟩ | ⟨h1, h2, h3, h4⟩
    · exact absurd (by rw [j2]; exact k2) (h2 j (klow D + g) j0 j1)
    · have q1 := h4 j (klow D + g) j0 j1 (by rw [j2]; exact k2)
      have q2 := k3 _ _ h2
      rw [j2, h3] at q1
      have := nbh_eq q1 q2
      exact ⟨⟨fun z => absurd z h1, fun z => absurd z k1⟩, fun _ => this.1⟩
/-- the next note upwards, among the first m -/
def nxI (D : GDt) (p m : Int) : Int := itr (fun j a => if p < dH D j then min a (dH D j) else a) 99 m
theorem nxI_s {p m : Int} (h : 0 ≤ m) : nxI D p (m + 1) = if p < dH D m then min (nxI D p m) (dH D m) else nxI D p m := itr_succ h
theorem nxI_is (hG : GOK D) {p : Int} : ∀ m : Nat, (m : Int) ≤ dN D → ((nxI D p m = 99 ∧ ∀ j, 0 ≤ j → j < (m : Int) → dH D j ≤ p) ∨ (nxI D p m ≠ 99 ∧ (∃ j, 0 ≤ j ∧ j < (m : Int) ∧ dH D j = nxI D p m ∧ p < nxI D p m) ∧ ∀ j, 0 ≤ j → j < (m : Int) → p < dH D j → nxI D p m ≤ dH D j)) := by
  intro m
  induction m with
  | zero => intro _; exact Or.inl ⟨rfl, fun j h0 h1 => by omega⟩
  | succ m ih =>
    intro hm
    have h := ih (by omega)
    have hr := hG.hr (i := m) (by omega)
    rw [show ((m + 1 : Nat) : Int) = (m : Int) + 1 by omega, nxI_s (by omega)]
    by_cases hp : p < dH D m
    · rw [if_pos hp]
      refine Or.inr ?_
      rcases h with ⟨h1, h2⟩ | ⟨h1, ⟨j, j0, j1, j2, j3⟩, h3⟩
      · rw [h1]
        refine ⟨by omega, ⟨m, by omega, by omega, by omega, by omega⟩, fun j h0 h4 h5 => ?_⟩
        by_cases he : j = m
        · rw [he]; omega
        · have := h2 j h0 (by omega); omega
      · have hjr := hG.hr (i := j) (by omega)
        by_cases hle : nxI D p m ≤ dH D m
        · rw [Int.min_eq_left hle]
          refine ⟨h1, ⟨j, j0, by omega, j2, j3⟩, fun k h0 h4 h5 => ?_⟩
          by_cases he : k = m
          · rw [he]; exact hle
          · exact h3 k h0 (by omega) h5
        · rw [Int.min_eq_right (by omega)]
          refine ⟨by omega, ⟨m, by omega, by omega, rfl, hp⟩, fun k h0 h4 h5 => ?_⟩
          by_cases he : k = m
          · rw [he]; omega
          · have := h3 k h0 (by omega) h5; omega
    · rw [if_neg hp]
      rcases h with ⟨h1, h2⟩ | ⟨h1, ⟨j, j0, j1, j2, j3⟩, h3⟩
      · refine Or.inl ⟨h1, fun k h0 h4 => ?_⟩
        by_cases he : k = m
        · rw [he]; omega
        · exact h2 k h0 (by omega)
      · refine Or.inr ⟨h1, ⟨j, j0, by omega, j2, j3⟩, fun k h0 h4 h5 => ?_⟩
        by_cases he : k = m
        · rw [he] at h5; omega
        · exact h3 k h0 (by omega) h5
def nxt (D : GDt) (i : Int) : Int := nxI D (dH D i) (dN D)
theorem nxt_is (hG : GOK D) {i : Int} (hi : 0 ≤ i ∧ i < dN D) : (nxt D i = 99 ∧ ∀ hi, ¬ cand D (dH D i) hi) ∨ (nxt D i ≠ 99 ∧ (dH D i < nxt D i ∧ nxt D i ≤ 12) ∧ (∀ hi, cand D (dH D i) hi → hi = nxt D i) ∧ (dK D ≤ nxt D i - dH D i → cand D (dH D i) (nxt D i))) := by
  have hn := hG.n
  have h := nxI_is hG (p := dH D i) (dN D).toNat (by omega)
  rw [show (((dN D).toNat : Nat) : Int) = dN D by omega] at h
  change ((nxt D i = 99 ∧ _) ∨ (nxt D i ≠ 99 ∧ _)) at h
  have hio : has D (dH D i) = true := (has_iff hG).mpr ⟨i, hi.1, hi.2, rfl⟩
  rcases h with ⟨h1, h2⟩ | ⟨h1, ⟨j, j0, j1, j2, j3⟩, h3⟩
  · refine Or.inl ⟨h1, fun q hc => ?_⟩
    obtain ⟨k, k0, k1, k2⟩ := (has_iff hG).mp hc.2.1
    have := h2 k k0 k1
    have := hc.2.2.1
    omega
  · change dH D j = nxt D i at j2
    change dH D i < nxt D i at j3
    have hjr := hG.hr (i := j) ⟨j0, j1⟩
    have hnx : has D (nxt D i) = true := (has_iff hG).mpr ⟨j, j0, j1, j2⟩
    have hmn : ∀ q, has D q = true → dH D i < q → nxt D i ≤ q := by
      intro q hq h4
      obtain ⟨k, k0, k1, rfl⟩ := (has_iff hG).mp hq
      exact h3 k k0 k1 h4
    refine Or.inr ⟨h1, ⟨j3, by omega⟩, fun q hc => ?_, fun hk => ⟨hio, hnx, j3, fun q h4 h5 hq => by have := hmn q hq h4; omega, hk⟩⟩
    have h4 := hmn q hc.2.1 hc.2.2.1
    rcases Int.lt_or_eq_of_le h4 with h5 | h5
    · exact absurd hnx (hc.2.2.2.1 _ j3 h5)
    · exact h5.symm
/-- one note more -/
theorem lkI_skip (hG : GOK D) {i gap below near : Int} (hi : 0 ≤ i ∧ i < dN D) (h : lkI D i gap below near) (hs : nxt D i = 99 ∨ nxt D i - dH D i < dK D ∨ nxt D i - dH D i < gap) : lkI D (i + 1) gap below near := by
  have hx := nxt_is hG hi
  rcases h with ⟨h1, h2, h3, h4⟩ | ⟨h1, h2, h3, h4⟩
  · refine Or.inl ⟨h1, h2, h3, fun j q j0 j1 hc => ?_⟩
    by_cases he : j = i
    · subst he
      rcases hx with ⟨-, x2⟩ | ⟨x1, x2, x3, x4⟩
      · exact x2 q hc
      · have := x3 q hc; have := hc.2.2.2.2; omega
    · exact h4 j q j0 (by omega) hc
  · refine Or.inr ⟨h1, h2, h3, fun j q j0 j1 hc => ?_⟩
    by_cases he : j = i
    · subst he
      rcases hx with ⟨-, x2⟩ | ⟨x1, x2, x3, x4⟩
      · exact absurd hc (x2 q)
      · have := x3 q hc; have := hc.2.2.2.2
        unfold nbh; omega
    · exact h4 j q j0 (by omega) hc
theorem lkI_take (hG : GOK D) {i gap below near : Int} (hi : 0 ≤ i ∧ i < dN D) (h : lkI D i gap below near) (h0 : ¬ nxt D i = 99) (hk : dK D ≤ nxt D i - dH D i) (ht : gap < nxt D i - dH D i ∨ (nxt D i - dH D i = gap ∧ (ab (nxt D i + dH D i) < near ∨ (ab (nxt D i + dH D i) = near ∧ dH D i < below)))) : lkI D (i + 1) (nxt D i - dH D i) (dH D i) (ab (nxt D i + dH D i)) := by
  have hkk := hG.k
  rcases nxt_is hG hi with ⟨x1, -⟩ | ⟨x1, x2, x3, x4⟩
  · exact absurd x1 h0
  refine Or.inr ⟨by omega, ?_, ?_, fun j q j0 j1 hc => ?_⟩
  · rw [show dH D i + (nxt D i - dH D i) = nxt D i by omega]; exact x4 hk
  · congr 1; omega
  · by_cases he : j = i
    · subst he
      rw [x3 q hc]
      refine Or.inr ⟨rfl, Or.inr ⟨?_, by omega⟩⟩
      congr 1; omega
    · rcases h with ⟨h1, h2, h3, h4⟩ | ⟨h1, h2, h3, h4⟩
      · exact absurd hc (h4 j q j0 (by omega))
      · have z := h4 j q j0 (by omega) hc
        unfold nbh at z ⊢
        omega
theorem lkI_keep (hG : GOK D) {i gap below near : Int} (hi : 0 ≤ i ∧ i < dN D) (h : lkI D i gap below near) (h0 : ¬ nxt D i = 99) (hk : dK D ≤ nxt D i - dH D i) (ht : ¬ (gap < nxt D i - dH D i)) (ht2 : ¬ ab (nxt D i + dH D i) < near) (ht3 : ¬ ab (nxt D i + dH D i) = near ∨ below ≤ dH D i) : lkI D (i + 1) gap below near := by
  have hkk := hG.k
  rcases nxt_is hG hi with ⟨x1, -⟩ | ⟨x1, x2, x3, x4⟩
  · exact absurd x1 h0
  rcases h with ⟨h1, h2, h3, h4⟩ | ⟨h1, h2, h3, h4⟩
  · omega
  refine Or.inr ⟨h1, h2, h3, fun j q j0 j1 hc => ?_⟩
  by_cases he : j = i
  · subst he
    rw [x3 q hc]
    have e : ab (nxt D j + dH D j) = ab (dH D j + nxt D j) := by congr 1; omega
    rw [e] at ht2 ht3
    unfold nbh; omega
  · exact h4 j q j0 (by omega) hc
/-- whether ways of stems are unlike -/
def isk (f : Int → Int) (i : Int) : Int := itr (fun j b => if b = 1 ∨ ¬ f j = f 0 then 1 else 0) 0 i
theorem isk_s {f : Int → Int} {i : Int} (h : 0 ≤ i) : isk f (i + 1) = if isk f i = 1 ∨ ¬ f i = f 0 then 1 else 0 := itr_succ h
theorem isk_is (f : Int → Int) : ∀ m : Nat, (isk f m = 1 ∧ ∃ j : Int, 0 ≤ j ∧ j < (m : Int) ∧ ¬ f j = f 0) ∨ (isk f m = 0 ∧ ∀ j : Int, 0 ≤ j → j < (m : Int) → f j = f 0) := by
  intro m
  induction m with
  | zero => exact Or.inr ⟨rfl, fun j h0 h1 => by omega⟩
  | succ m ih =>
    rw [show ((m + 1 : Nat) : Int) = (m : Int) + 1 by omega, isk_s (by omega)]
    rcases ih with ⟨h1, j, j0, j1, j2⟩ | ⟨h1, h2⟩
    · exact Or.inl ⟨if_pos (Or.inl h1), j, j0, by omega, j2⟩
    · by_cases he : f m = f 0
      · refine Or.inr ⟨?_, fun j j0 j1 => ?_⟩
        · rw [if_neg (by rintro (h | h); omega; exact h he)]
        · by_cases hj : j = m
          · rw [hj]; exact he
          · exact h2 j j0 (by omega)
      · exact Or.inl ⟨if_pos (Or.inr he), m, by omega, by omega, he⟩
theorem isk_up {f : Int → Int} {i n : Int} (hi : 0 ≤ i ∧ i < n) (h : ¬ f i = f 0) : isk f n = 1 := by
  have q := isk_is f n.toNat
  rw [show ((n.toNat : Nat) : Int) = n by omega] at q
  rcases q with ⟨h1, -⟩ | ⟨-, h2⟩
  · exact h1
  · exact absurd (h2 i hi.1 hi.2) h
theorem isk_k (hG : GOK D) {f : Int → Int} (hf : ∀ i, 0 ≤ i → i < dN D → f i = way D i) : isk f (dN D) = am_b (¬ klow D = 99) := by
  have hn := hG.n
  have q := isk_is f (dN D).toNat
  rw [show (((dN D).toNat : Nat) : Int) = dN D by omega] at q
  have f0 := hf 0 (by decide) (by omega)
  rcases klow_is hG with ⟨k1, -⟩ | ⟨k1, g, k2, -⟩
  · rcases q with ⟨-, j, j0, j1, j2⟩ | ⟨h1, -⟩
    · exact absurd (by rw [hf j j0 j1, f0]; unfold way; rw [if_pos k1, if_pos k1]) j2
    · rw [h1, am_b, if_neg (fun z => z k1)]
  · rcases q with ⟨h1, -⟩ | ⟨-, h2⟩
    · rw [h1, am_b, if_pos k1]
    · obtain ⟨a, a0, a1, a2⟩ := (has_iff hG).mp k2.1
      obtain ⟨b, b0, b1, b2⟩ := (has_iff hG).mp k2.2.1
      have h3 := (hf a a0 a1).symm.trans ((h2 a a0 a1).trans ((h2 b b0 b1).symm.trans (hf b b0 b1)))
      have h4 := k2.2.2.1
      unfold way at h3
      rw [if_neg k1, if_neg k1, if_neg (by omega), if_pos (by omega)] at h3
      cases h3
/-- all alike -/
theorem cway_is {D : GDt} {h l s p : Int} (e1 : h = hiD D (dN D)) (e2 : l = loD D (dN D)) (e3 : s = suD D (dN D)) (e4 : p = dH D 0) {z : Int} (hz : (¬ h = l ∧ z = if l < h then -1 else 1) ∨ (h = l ∧ ¬ s = 0 ∧ z = if 0 < s then -1 else 1) ∨ (h = l ∧ s = 0 ∧ z = if 0 ≤ p then -1 else 1)) : z = cway D := by
  subst e1; subst e2; subst e3; subst e4
  have hx : ∀ {a b c : Int} (x : Int), (if ¬ a = b then a - b else if ¬ c = 0 then c else x) = (if a = b then (if c = 0 then x else c) else a - b) := by
    intro a b c x
    by_cases h1 : a = b <;> by_cases h2 : c = 0 <;> simp [h1, h2]
  unfold cway
  rw [hx]
  rcases hz with ⟨h1, rfl⟩ | ⟨h1, h2, rfl⟩ | ⟨h1, h2, rfl⟩
  · rw [if_neg h1]; split <;> split <;> omega
  · rw [if_pos h1, if_neg h2]; split <;> split <;> omega
  · rw [if_pos h1, if_pos h2]
end knee
section knee2
variable {D : GDt}
theorem nxI_r (hG : GOK D) {p m : Int} (hm : 0 ≤ m ∧ m ≤ dN D) : -12 ≤ nxI D p m ∧ nxI D p m ≤ 99 := by
  have h := nxI_is hG (p := p) m.toNat (by omega)
  rw [show ((m.toNat : Nat) : Int) = m by omega] at h
  rcases h with ⟨h1, -⟩ | ⟨-, ⟨j, j0, j1, j2, -⟩, -⟩
  · omega
  · have := hG.hr (i := j) ⟨j0, by omega⟩; omega
theorem nxt_r (hG : GOK D) {i : Int} (hi : 0 ≤ i ∧ i < dN D) : nxt D i = 99 ∨ (dH D i < nxt D i ∧ nxt D i ≤ 12) := by
  rcases nxt_is hG hi with ⟨h, -⟩ | ⟨-, h, -⟩
  · exact Or.inl h
  · exact Or.inr h
theorem lkI_s1 (hG : GOK D) {i gap below near x : Int} (hi : 0 ≤ i ∧ i < dN D) (hx : x = nxt D i) (h : lkI D i gap below near) (hs : x = 99 ∨ x - dH D i < dK D ∨ x - dH D i < gap) : lkI D (i + 1) gap below near := by
  subst hx; exact lkI_skip hG hi h hs
theorem lkI_s2 (hG : GOK D) {i gap below near x : Int} (hi : 0 ≤ i ∧ i < dN D) (hx : x = nxt D i) (h : lkI D i gap below near) (h0 : ¬ x = 99) (hk : dK D ≤ x - dH D i) (ht : gap < x - dH D i ∨ (x - dH D i = gap ∧ (ab (x + dH D i) < near ∨ (ab (x + dH D i) = near ∧ dH D i < below)))) : lkI D (i + 1) (x - dH D i) (dH D i) (ab (x + dH D i)) := by
  subst hx; exact lkI_take hG hi h h0 hk ht
theorem lkI_s3 (hG : GOK D) {i gap below near x : Int} (hi : 0 ≤ i ∧ i < dN D) (hx : x = nxt D i) (h : lkI D i gap below near) (h0 : ¬ x = 99) (hk : dK D ≤ x - dH D i) (ht : ¬ (gap < x - dH D i)) (ht2 : ¬ ab (x + dH D i) < near) (ht3 : ¬ ab (x + dH D i) = near ∨ below ≤ dH D i) : lkI D (i + 1) gap below near := by
  subst hx; exact lkI_keep hG hi h h0 hk ht ht2 ht3
theorem lkI_b (hG : GOK D) {i gap below near : Int} (h : lkI D i gap below near) : (0 ≤ gap ∧ gap ≤ 24) ∧ (-12 ≤ below ∧ below ≤ 12) ∧ (0 ≤ near ∧ near ≤ 24) := by
  have hk := hG.k
  rcases h with ⟨rfl, rfl, rfl, -⟩ | ⟨h1, h2, h3, -⟩
  · omega
  · have q1 := has_r hG h2.1
    have q2 := has_r hG h2.2.1
    have q3 := h2.2.2.1
    rw [h3]
    unfold ab
    omega
end knee2
