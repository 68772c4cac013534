/-! ===== A line takes a byte at least ===== -/
section grow
variable {b : Int → Int} {n a : Int} {σ : Mu}
theorem de_g (h : a ≤ n) : a ≤ de b n (sk b n a) ∧ de b n (sk b n a) ≤ n := by
  have h1 := sk_r b n a h
  have h2 := de_r b n (sk b n a) h1.2
  omega
theorem nW_g {lo hi : Int} (ha : a ≤ n) (h : (nW b n lo hi a).1 = 0) : a ≤ (nW b n lo hi a).2.2.2 ∧ (nW b n lo hi a).2.2.2 ≤ n := by
  rw [(nW_z h).2.2]; exact de_g ha
theorem nK_g (ha : a ≤ n) (h : (nK b n a).1 = 0) : a ≤ (nK b n a).2.2.2 ∧ (nK b n a).2.2.2 ≤ n := by
  rw [(nK_z h).2.2]; exact de_g ha
theorem nP_g (ha : a ≤ n) (h : (nP b n a).1 = 0) : a ≤ (nP b n a).2.2.2 ∧ (nP b n a).2.2.2 ≤ n := by
  rw [(nP_z ha h).2.2]
  have h1 := sg_r (b := b) (n := n) (a := a) ha
  have h2 := sk_r b n a ha
  have h3 := de_g (b := b) (n := n) (a := sg b n a) h1.2
  omega
theorem lMet_g (ha : a ≤ n) (h : (lMet b n σ a).1 = 0) : a ≤ (lMet b n σ a).2.2.2 ∧ (lMet b n σ a).2.2.2 ≤ n := by
  unfold lMet at h ⊢
  by_cases h1 : (nW b n 1 12 a).1 = 0
  · have g1 := nW_g ha h1
    rw [if_neg (fun q => q h1)] at h ⊢
    by_cases h2 : dgA b n (nW b n 1 12 a).2.2.2
    · rw [if_neg (fun q => q h2)] at h ⊢
      by_cases h3 : nval b n (nW b n 1 12 a).2.2.2 = 2 ∨ nval b n (nW b n 1 12 a).2.2.2 = 4 ∨ nval b n (nW b n 1 12 a).2.2.2 = 8
      · rw [if_neg (fun q => q h3)]
        have g2 := de_g (b := b) g1.2
        exact ⟨by show a ≤ de b n (sk b n (nW b n 1 12 a).2.2.2); omega, g2.2⟩
      · rw [if_pos h3] at h; exact absurd (show (2 : Int) = 0 from h) (by omega)
    · rw [if_pos h2] at h; exact absurd (show (1 : Int) = 0 from h) (by omega)
  · rw [if_pos h1] at h; exact absurd h h1
theorem lKne_g (ha : a ≤ n) (h : (lKne b n σ a).1 = 0) : a ≤ (lKne b n σ a).2.2.2 ∧ (lKne b n σ a).2.2.2 ≤ n := by
  unfold lKne at h ⊢
  by_cases h1 : (nW b n 4 24 a).1 = 0
  · rw [if_neg (fun q => q h1)]; exact nW_g ha h1
  · rw [if_pos h1] at h; exact absurd h h1
theorem lWid_g (ha : a ≤ n) (h : (lWid b n σ a).1 = 0) : a ≤ (lWid b n σ a).2.2.2 ∧ (lWid b n σ a).2.2.2 ≤ n := by
  unfold lWid at h ⊢
  by_cases h1 : (nK b n a).1 = 0
  · have g1 := nK_g ha h1
    rw [if_neg (fun q => q h1)] at h ⊢
    by_cases h2 : σ 8 (bok (nK b n a).2.2.1) = 0
    · rw [if_neg (fun q => q h2)] at h ⊢
      by_cases h3 : (nW b n 4 40 (nK b n a).2.2.2).1 = 0
      · rw [if_neg (fun q => q h3)]
        have g2 := nW_g g1.2 h3
        exact ⟨by show a ≤ (nW b n 4 40 (nK b n a).2.2.2).2.2.2; omega, g2.2⟩
      · rw [if_pos h3] at h; exact absurd h h3
    · rw [if_pos h2] at h; exact absurd (show (3 : Int) = 0 from h) (by omega)
  · rw [if_pos h1] at h; exact absurd h h1
theorem lEle_g {so : Int} (ha : a ≤ n) (h : (lEle b n σ so a).1 = 0) : a ≤ (lEle b n σ so a).2.2.2 ∧ (lEle b n σ so a).2.2.2 ≤ n := by
  unfold lEle at h ⊢
  by_cases h1 : (nK b n a).1 = 0
  · have g1 := nK_g ha h1
    rw [if_neg (fun q => q h1)] at h ⊢
    by_cases h2 : tS σ % mlS σ + lok (nK b n a).2.2.1 ≤ mlS σ
    · rw [if_neg (fun q => q h2)] at h ⊢
      by_cases h3 : so = 0
      · rw [if_pos h3]; exact g1
      · rw [if_neg h3] at h ⊢
        by_cases h4 : (nP b n (nK b n a).2.2.2).1 = 0
        · rw [if_neg (fun q => q h4)]
          have g2 := nP_g g1.2 h4
          exact ⟨by show a ≤ (nP b n (nK b n a).2.2.2).2.2.2; omega, g2.2⟩
        · rw [if_pos h4] at h; exact absurd h h4
    · rw [if_pos h2] at h; exact absurd (show (5 : Int) = 0 from h) (by omega)
  · rw [if_pos h1] at h; exact absurd h h1
theorem spL_g : ∀ (m : Nat) (σ1 : Mu) (k tg a : Int), a ≤ n → (spL b n m σ1 k tg a).1 = 0 → a ≤ (spL b n m σ1 k tg a).2.2.2.2.2 ∧ (spL b n m σ1 k tg a).2.2.2.2.2 ≤ n := by
  intro m
  induction m with
  | zero => intro σ1 k tg a ha _; exact ⟨Int.le_refl _, ha⟩
  | succ m ih =>
    intro σ1 k tg a ha hz
    by_cases hc : k = 0 ∨ (k ≤ 6 ∧ dgA b n a)
    · by_cases hw : (spW b n σ1 k tg a).1 = 0
      · rw [spL_go hc hw] at hz ⊢
        have g1 : a ≤ (spW b n σ1 k tg a).2.2.2 ∧ (spW b n σ1 k tg a).2.2.2 ≤ n := nW_g ha hw
        have g2 := sk_r b n (spW b n σ1 k tg a).2.2.2 g1.2
        have g3 := ih _ _ _ _ g2.2 hz
        omega
      · rw [spL_bad hc hw] at hz; exact absurd hz hw
    · rw [spL_end hc]; exact ⟨Int.le_refl _, ha⟩
theorem lSpl_g (ha : a ≤ n) (h : (lSpl b n σ a).1 = 0) : a ≤ (lSpl b n σ a).2.2.2 ∧ (lSpl b n σ a).2.2.2 ≤ n := by
  unfold lSpl at h ⊢
  by_cases h1 : (spL b n 8 σ 0 0 a).1 = 0
  · rw [if_neg (fun q => q h1)] at h ⊢
    by_cases h2 : (spL b n 8 σ 0 0 a).2.2.2.1 < σ 0 2 ∧ see b n (sk b n (spL b n 8 σ 0 0 a).2.2.2.2.2) = 59
    · rw [if_pos h2] at h; exact absurd (show (5 : Int) = 0 from h) (by omega)
    · rw [if_neg h2]; exact spL_g 8 σ 0 0 a ha h1
  · rw [if_pos h1] at h; exact absurd h h1
theorem lBod_g {w : Int} (ha : a ≤ n) (h : (lBod b n σ w a).1 = 0) : a ≤ (lBod b n σ w a).2.2.2 ∧ (lBod b n σ w a).2.2.2 ≤ n := by
  unfold lBod at h ⊢
  by_cases h0 : w = 0
  · rw [if_pos h0] at h ⊢; exact lMet_g ha h
  · rw [if_neg h0] at h ⊢
    by_cases h1 : w = 1
    · rw [if_pos h1] at h ⊢; exact lSpl_g ha h
    · rw [if_neg h1] at h ⊢
      by_cases h2 : w = 2
      · rw [if_pos h2] at h ⊢; exact lKne_g ha h
      · rw [if_neg h2] at h ⊢
        by_cases h3 : w = 3
        · rw [if_pos h3] at h ⊢; exact lWid_g ha h
        · rw [if_neg h3] at h ⊢; exact lEle_g ha h
theorem lEnd_g {r : Lres} (hr : r.1 = 0 → a ≤ r.2.2.2 ∧ r.2.2.2 ≤ n) (h : (lEnd b n r).1 = 0) : a < (lEnd b n r).2.2.2 ∧ (lEnd b n r).2.2.2 ≤ n := by
  by_cases h1 : r.1 = 0
  · have g1 := hr h1
    have g2 := sk_r b n r.2.2.2 g1.2
    by_cases h2 : see b n (sk b n r.2.2.2) = 59
    · rw [lEnd_0 h1 h2]
      have g3 := see_lt h2 (by omega)
      exact ⟨by show a < sk b n r.2.2.2 + 1; omega, by show sk b n r.2.2.2 + 1 ≤ n; omega⟩
    · rw [lEnd_1 h1 h2] at h; exact absurd (show (1 : Int) = 0 from h) (by omega)
  · rw [lEnd_b h1] at h; exact absurd h h1
theorem lnF_g (ha : a ≤ n) (h : (lnF b n σ a).1 = 0) : a < (lnF b n σ a).2.2.2 ∧ (lnF b n σ a).2.2.2 ≤ n := by
  have h1 := sk_r b n a ha
  have h2 := we_r b n (sk b n a) h1.2
  unfold lnF at h ⊢
  rw [lnW_ln0] at h ⊢
  refine lEnd_g (fun h0 => ?_) h
  unfold ln0 at h0 ⊢
  by_cases c1 : wdC b (sk b n a) (we b n (sk b n a)) = -1 ∨ tooL σ (wdC b (sk b n a) (we b n (sk b n a)))
  · rw [if_pos c1] at h0; exact absurd (show (1 : Int) = 0 from h0) (by omega)
  · rw [if_neg c1] at h0 ⊢
    by_cases c2 : wdC b (sk b n a) (we b n (sk b n a)) ≤ 2 ∧ ¬ tldS σ (wdC b (sk b n a) (we b n (sk b n a))) = 0
    · rw [if_pos c2] at h0; exact absurd (show (3 : Int) = 0 from h0) (by omega)
    · rw [if_neg c2] at h0 ⊢
      by_cases c3 : 4 ≤ wdC b (sk b n a) (we b n (sk b n a)) ∧ 64 ≤ σ 0 0
      · rw [if_pos c3] at h0; exact absurd (show (4 : Int) = 0 from h0) (by omega)
      · rw [if_neg c3] at h0 ⊢
        have g := lBod_g h2.2 h0
        omega
/-- as many lines as there are bytes left are enough -/
theorem rdN_more : ∀ (m m1 : Nat) (σ : Mu) (a : Int), a ≤ n → n - a ≤ m → n - a ≤ m1 → rs3 (rdN b n m σ a) (rdN b n m1 σ a) := by
  intro m
  induction m with
  | zero =>
    intro m1 σ a ha h h1
    have := sk_r b n a ha
    rw [rdN_end (m := m1) (Or.inr (show n ≤ sk b n a by omega))]
    exact ⟨rfl, rfl, rfl⟩
  | succ m ih =>
    intro m1 σ a ha h h1
    by_cases c : n ≤ sk b n a
    · rw [rdN_end (m := m + 1) (Or.inr c), rdN_end (m := m1) (Or.inr c)]; exact ⟨rfl, rfl, rfl⟩
    · have g0 := sk_r b n a ha
      cases m1 with
      | zero => exfalso; omega
      | succ m1 =>
        by_cases c1 : (lnF b n σ a).1 = 0
        · have g := lnF_g ha c1
          rw [rdN_go (by omega) c1, rdN_go (by omega) c1]
          exact ih m1 _ _ g.2 (by omega) (by omega)
        · rw [rdN_bad (by omega) c1, rdN_bad (by omega) c1]; exact ⟨rfl, rfl, rfl⟩
end grow
