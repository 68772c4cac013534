/-! ===== The groups of a piece, found one behind another ===== -/
def prl (F M : Int → Int) (g : Int) : List (Int × Int) := (List.range g.toNat).map fun (k : Nat) => (F k, M k)
def GRI (sz : Int) (rl : Int → Int) (nt : Int → Prop) (F M O : Int → Int) (i g : Int) : Prop := (0 ≤ i ∧ i ≤ sz ∧ 0 ≤ g ∧ 2 * g ≤ i) ∧
  (∀ h, 0 ≤ h → h < g → (0 ≤ F h ∧ 2 ≤ M h ∧ F h + M h ≤ i) ∧ ∀ j, F h ≤ j → j < F h + M h → O j = h ∧ nt j) ∧
  (∀ j, 0 ≤ j → j < sz → (-1 ≤ O j ∧ O j < g) ∧ (0 ≤ O j → F (O j) ≤ j ∧ j < F (O j) + M (O j))) ∧
  (∀ j, i ≤ j → j < sz → O j = -1) ∧ prl F M g ++ seg sz rl i = seg sz rl 0
section gri
variable {sz i g : Int} {rl F M O F1 M1 O1 : Int → Int} {nt : Int → Prop}
theorem prl_s (h : 0 ≤ g) (hF : ∀ k, ¬ k = g → F1 k = F k) (hM : ∀ k, ¬ k = g → M1 k = M k) : prl F1 M1 (g + 1) = prl F M g ++ [(F1 g, M1 g)] := by
  unfold prl
  rw [show (g + 1).toNat = g.toNat + 1 by omega, List.range_succ, List.map_append, List.map_singleton, show ((g.toNat : Nat) : Int) = g by omega]
  congr 1
  apply List.map_congr_left
  intro k hk
  have := List.mem_range.mp hk
  rw [hF k (by omega), hM k (by omega)]
theorem GRI_0 (hs : 0 ≤ sz) (ho : ∀ j, 0 ≤ j → j < sz → O j = -1) : GRI sz rl nt F M O 0 0 :=
  ⟨⟨by omega, hs, by omega, by omega⟩, fun h a c => by omega, fun j a c => ⟨by rw [ho j a c]; omega, fun q => by rw [ho j a c] at q; omega⟩, fun j a c => ho j a c, rfl⟩
theorem GRI_no (h : GRI sz rl nt F M O i g) (hi : i < sz) (hr : ¬ 1 < rl i) : GRI sz rl nt F M O (i + 1) g :=
  ⟨⟨by have := h.1; omega, by omega, h.1.2.2.1, by have := h.1; omega⟩, fun k a c => ⟨⟨((h.2.1 k a c).1).1, ((h.2.1 k a c).1).2.1, by have := ((h.2.1 k a c).1).2.2; omega⟩, (h.2.1 k a c).2⟩, h.2.2.1, fun j a c => h.2.2.2.1 j (by omega) c, by rw [← seg_no hi hr]; exact h.2.2.2.2⟩
theorem GRI_go (h : GRI sz rl nt F M O i g) (hi : i < sz) (hr : 1 < rl i) (hr2 : rl i ≤ sz - i) (hn : ∀ j, i ≤ j → j < i + rl i → nt j) (hF : ∀ k, ¬ k = g → F1 k = F k) (hM : ∀ k, ¬ k = g → M1 k = M k) (hFg : F1 g = i) (hMg : M1 g = rl i)
    (hO : ∀ j, i ≤ j → j < i + rl i → O1 j = g) (hO2 : ∀ j, ¬ (i ≤ j ∧ j < i + rl i) → O1 j = O j) : GRI sz rl nt F1 M1 O1 (i + rl i) (g + 1) := by
  have h1 := h.1
  refine ⟨⟨by omega, by omega, by omega, by omega⟩, fun k a c => ?_, fun j a c => ?_, fun j a c => ?_, ?_⟩
  · by_cases e : k = g
    · subst e
      rw [hFg, hMg]
      exact ⟨⟨by omega, by omega, by omega⟩, fun j q1 q2 => ⟨hO j q1 q2, hn j q1 q2⟩⟩
    · have h2 := h.2.1 k a (by omega)
      rw [hF k e, hM k e]
      refine ⟨⟨h2.1.1, h2.1.2.1, by omega⟩, fun j q1 q2 => ?_⟩
      rw [hO2 j (by omega)]
      exact h2.2 j q1 q2
  · by_cases e : i ≤ j ∧ j < i + rl i
    · rw [hO j e.1 e.2, hFg, hMg]
      exact ⟨by omega, fun _ => e⟩
    · have h3 := h.2.2.1 j a c
      rw [hO2 j e]
      refine ⟨by omega, fun q => ?_⟩
      rw [hF _ (by omega), hM _ (by omega)]
      exact h3.2 q
  · rw [hO2 j (by omega)]
    exact h.2.2.2.1 j (by omega) c
  · rw [prl_s h1.2.2.1 hF hM, hFg, hMg, List.append_assoc, List.singleton_append, ← seg_go hi hr hr2]
    exact h.2.2.2.2
end gri
section grp
variable {μ μ1 : Mu} {p i j each : Int}
theorem PI.cg3 (h : PI μ p) (e : ∀ o : Int, p + 1 ≤ o ∧ o ≤ p + 7 → μ1 o = μ o) (f : ∀ k : Int, ¬ k = 14 → μ1 p k = μ p k) : PI μ1 p := by
  unfold PI at h ⊢
  rw [f 1 (by omega), f 2 (by omega), f 4 (by omega), f 7 (by omega), e (p + 1) (by omega), e (p + 2) (by omega), e (p + 3) (by omega), e (p + 4) (by omega), e (p + 5) (by omega), e (p + 6) (by omega), e (p + 7) (by omega)]
  exact h
theorem runl_cg3 (e : ∀ o : Int, p + 1 ≤ o ∧ o ≤ p + 7 → μ1 o = μ o) (f : ∀ k : Int, ¬ k = 14 → μ1 p k = μ p k) : runl μ1 p i each = runl μ p i each := by
  have h1 : tog μ1 p i each = tog μ p i each := by
    funext j
    unfold tog bmz mof pof twn mlg
    rw [f 1 (by omega), f 2 (by omega), f 4 (by omega), e (p + 1) (by omega), e (p + 3) (by omega), e (p + 4) (by omega), e (p + 6) (by omega)]
  unfold runl
  rw [f 7 (by omega), h1]
theorem runl_nt (h1 : i ≤ j) (h2 : j < i + runl μ p i each) (h3 : j < μ p 7) : 0 < bmz μ p j := by
  have h := rn_all (sz := μ p 7) (c := tog μ p i each) _ i rfl j h1 (by unfold runl at h2; omega) h3
  unfold tog at h
  simp only [decide_eq_true_eq] at h
  exact h.1
/-- what stands of the groups: the class's rows against the stretches -/
def ntP (μ : Mu) (p : Int) : Int → Prop := fun j => μ (p + 4) j = 1 ∧ 1 ≤ bok (μ (p + 3) j)
abbrev GRP (μ μ1 : Mu) (p i g : Int) : Prop := GRI (μ p 7) (fun j => runl μ p j 0) (ntP μ p) (μ1 (p + 9)) (μ1 (p + 10)) (μ1 (p + 8)) i g
theorem bmz_nt (hI : PI μ p) (hj : 0 ≤ j ∧ j < μ p 7) (h : 0 < bmz μ p j) : ntP μ p j := by
  have h1 := hI.so rfl hj
  unfold bmz at h
  unfold ntP
  by_cases e : μ (p + 4) j = 0
  · rw [if_pos e] at h; omega
  · rw [if_neg e] at h; omega
theorem GRP.pg {i g : Int} (h : GRP μ μ1 p i g) (hi : ¬ i < μ p 7) (hI : PI μ p) (e : ∀ o : Int, p + 1 ≤ o ∧ o ≤ p + 7 → μ1 o = μ o) (f : ∀ k : Int, ¬ k = 14 → μ1 p k = μ p k) (hg : μ1 p 14 = g) (hx : ∀ i, 0 ≤ i → i + 1 < μ p 7 → μ (p + 7) i + 4 ≤ μ (p + 7) (i + 1) ∧ μ (p + 7) (i + 1) ≤ μ (p + 7) i + 40) : PG μ1 p ∧ prl (μ1 (p + 9)) (μ1 (p + 10)) g = seg (μ p 7) (fun j => runl μ p j 0) 0 := by
  have hs := hI.sz
  have h1 := h.1
  refine ⟨⟨by rw [hg]; omega, fun k a c => ?_, ?_, ?_⟩, ?_⟩
  · rw [hg] at c
    have h2 := h.2.1 k a c
    rw [f 7 (by omega), e (p + 4) (by omega), e (p + 3) (by omega)]
    exact ⟨⟨h2.1.1, h2.1.2.1, by omega⟩, fun j q1 q2 => h2.2 j q1 q2⟩
  · rw [f 7 (by omega), hg]
    exact h.2.2.1
  · rw [f 7 (by omega), e (p + 7) (by omega)]
    exact hx
  · have h5 := h.2.2.2.2
    rw [seg_end (by omega), List.append_nil] at h5
    exact h5
end grp
