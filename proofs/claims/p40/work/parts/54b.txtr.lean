/-! ===== A whole line; what has been told ===== -/
def TLD (σ : Mu) (μ : Mu) : Prop := μ 43 0 = σ 0 6 ∧ (μ 43 1 = if 0 < σ 0 5 then 1 else 0) ∧ μ 43 2 = σ 0 7 ∧ ∀ k : Int, 0 ≤ k → k < 4 → μ 44 k = σ 8 k
theorem TLD.cg {σ μ μ1 : Mu} (h : TLD σ μ) (e : ∀ o : Int, 43 ≤ o ∧ o ≤ 44 → μ1 o = μ o) : TLD σ μ1 := by
  unfold TLD at h ⊢
  rw [e 43 (by omega), e 44 (by omega)]
  exact h
theorem lnW_1 {b : Int → Int} {n w s e : Int} {σ : Mu} (h : w = -1 ∨ tooL σ w) : lnW b n σ w s e = erL σ s 1 s := by unfold lnW; rw [if_pos h]
theorem lnW_3 {b : Int → Int} {n w s e : Int} {σ : Mu} (h : ¬ (w = -1 ∨ tooL σ w)) (h3 : w ≤ 2 ∧ ¬ tldS σ w = 0) : lnW b n σ w s e = erL σ s 3 s := by unfold lnW; rw [if_neg h, if_pos h3]
theorem lnW_4 {b : Int → Int} {n w s e : Int} {σ : Mu} (h : ¬ (w = -1 ∨ tooL σ w)) (h3 : ¬ (w ≤ 2 ∧ ¬ tldS σ w = 0)) (h4 : 4 ≤ w ∧ 64 ≤ σ 0 0) : lnW b n σ w s e = erL σ s 4 s := by unfold lnW; rw [if_neg h, if_neg h3, if_pos h4]
theorem lnW_b {b : Int → Int} {n w s e : Int} {σ : Mu} (h : ¬ (w = -1 ∨ tooL σ w)) (h3 : ¬ (w ≤ 2 ∧ ¬ tldS σ w = 0)) (h4 : ¬ (4 ≤ w ∧ 64 ≤ σ 0 0)) : lnW b n σ w s e = lEnd b n (lBod b n σ w e) := by unfold lnW; rw [if_neg h, if_neg h3, if_neg h4]
theorem lEnd_b {b : Int → Int} {n : Int} {r : Lres} (h : ¬ r.1 = 0) : lEnd b n r = r := by unfold lEnd; rw [if_pos h]
theorem lEnd_1 {b : Int → Int} {n : Int} {r : Lres} (h : r.1 = 0) (h1 : ¬ see b n (sk b n r.2.2.2) = 59) : lEnd b n r = (1, sk b n r.2.2.2, r.2.2.1, r.2.2.2) := by unfold lEnd; rw [if_neg (fun q => q h), if_pos h1]
theorem lEnd_0 {b : Int → Int} {n : Int} {r : Lres} (h : r.1 = 0) (h1 : see b n (sk b n r.2.2.2) = 59) : lEnd b n r = (0, 0, r.2.2.1, sk b n r.2.2.2 + 1) := by unfold lEnd; rw [if_neg (fun q => q h), if_neg (fun q => q h1)]
/-- what the class's readLine() leaves -/
def rdT (r : Lres) (q z : Int) (μ : Mu) : Prop := (z = 1 ∧ r.1 = 0 ∧ CPS r.2.2.1 q μ ∧ μ 42 4 = r.2.2.2 ∧ TLD r.2.2.1 μ) ∨ (z = 0 ∧ ¬ r.1 = 0 ∧ μ 42 0 = r.1 ∧ μ 42 1 = r.2.1)
theorem rdT_er {r : Lres} {σ : Mu} {q a c pl z : Int} {μ : Mu} (h : r = erL σ a c pl) (hc : ¬ c = 0) (hz : z = 0) (h0 : μ 42 0 = c) (h1 : μ 42 1 = pl) : rdT r q z μ := by subst h; exact Or.inr ⟨hz, hc, h0, h1⟩
theorem rdT_bad {r r0 : Lres} {b : Int → Int} {n q z z0 : Int} {μ : Mu} (h : r = lEnd b n r0) (hr : z0 = 0 ∧ ¬ r0.1 = 0 ∧ μ 42 0 = r0.1 ∧ μ 42 1 = r0.2.1) (hz : z = 0) : rdT r q z μ := by rw [h, lEnd_b hr.2.1]; exact Or.inr ⟨hz, hr.2⟩
theorem rdT_1 {r r0 : Lres} {b : Int → Int} {n q z : Int} {μ : Mu} (h : r = lEnd b n r0) (hr : r0.1 = 0) (h1 : ¬ see b n (sk b n r0.2.2.2) = 59) (hz : z = 0) (e0 : μ 42 0 = 1) (e1 : μ 42 1 = sk b n r0.2.2.2) : rdT r q z μ := by rw [h, lEnd_1 hr h1]; exact Or.inr ⟨hz, by show ¬ (1 : Int) = 0; omega, e0, e1⟩
theorem rdT_0 {r r0 : Lres} {b : Int → Int} {n q z : Int} {μ : Mu} (h : r = lEnd b n r0) (hr : r0.1 = 0) (h1 : see b n (sk b n r0.2.2.2) = 59) (hz : z = 1) (hc : CPS r0.2.2.1 q μ) (h4 : μ 42 4 = sk b n r0.2.2.2 + 1) (ht : TLD r0.2.2.1 μ) : rdT r q z μ := by rw [h, lEnd_0 hr h1]; exact Or.inl ⟨hz, rfl, hc, h4, ht⟩
theorem lMet_s {b : Int → Int} {n a : Int} {σ : Mu} (h : (lMet b n σ a).1 = 0) : (∀ o : Int, ¬ o = 0 → (lMet b n σ a).2.2.1 o = σ o) ∧ (lMet b n σ a).2.2.1 0 6 = 1 ∧ (lMet b n σ a).2.2.1 0 5 = σ 0 5 ∧ (lMet b n σ a).2.2.1 0 7 = σ 0 7 := by
  unfold lMet at h ⊢
  by_cases h1 : (nW b n 1 12 a).1 = 0
  · rw [if_neg (fun q => q h1)] at h ⊢
    by_cases h2 : dgA b n (nW b n 1 12 a).2.2.2
    · rw [if_neg (fun q => q h2)] at h ⊢
      by_cases h3 : nval b n (nW b n 1 12 a).2.2.2 = 2 ∨ nval b n (nW b n 1 12 a).2.2.2 = 4 ∨ nval b n (nW b n 1 12 a).2.2.2 = 8
      · rw [if_neg (fun q => q h3)]
        obtain ⟨e, e2, e3, e6, ek⟩ := metS_f (σ := σ) (v := (nW b n 1 12 a).2.2.1) (u := nval b n (nW b n 1 12 a).2.2.2)
        exact ⟨e, e6, ek 5 (by omega) (by omega) (by omega), ek 7 (by omega) (by omega) (by omega)⟩
      · rw [if_pos h3] at h; exact absurd (show (2 : Int) = 0 from h) (by omega)
    · rw [if_pos h2] at h; exact absurd (show (1 : Int) = 0 from h) (by omega)
  · rw [if_pos h1] at h; exact absurd h h1
theorem lKne_s {b : Int → Int} {n a : Int} {σ : Mu} (h : (lKne b n σ a).1 = 0) : (∀ o : Int, ¬ o = 0 → (lKne b n σ a).2.2.1 o = σ o) ∧ (lKne b n σ a).2.2.1 0 6 = σ 0 6 ∧ (lKne b n σ a).2.2.1 0 5 = σ 0 5 ∧ (lKne b n σ a).2.2.1 0 7 = 1 := by
  unfold lKne at h ⊢
  by_cases h1 : (nW b n 4 24 a).1 = 0
  · rw [if_neg (fun q => q h1)]
    obtain ⟨e, e4, e7, ek⟩ := knS_f (σ := σ) (v := (nW b n 4 24 a).2.2.1)
    exact ⟨e, ek 6 (by omega) (by omega), ek 5 (by omega) (by omega), e7⟩
  · rw [if_pos h1] at h; exact absurd h h1
theorem lWid_s {b : Int → Int} {n a : Int} {σ : Mu} (h : (lWid b n σ a).1 = 0) : (lWid b n σ a).2.2.1 = wdS σ (bok (nK b n a).2.2.1) (nW b n 4 40 (nK b n a).2.2.2).2.2.1 := by
  unfold lWid at h ⊢
  by_cases h1 : (nK b n a).1 = 0
  · rw [if_neg (fun q => q h1)] at h ⊢
    by_cases h2 : σ 8 (bok (nK b n a).2.2.1) = 0
    · rw [if_neg (fun q => q h2)] at h ⊢
      by_cases h3 : (nW b n 4 40 (nK b n a).2.2.2).1 = 0
      · rw [if_neg (fun q => q h3)]
      · rw [if_pos h3] at h; exact absurd h h3
    · rw [if_pos h2] at h; exact absurd (show (3 : Int) = 0 from h) (by omega)
  · rw [if_pos h1] at h; exact absurd h h1
theorem lEle_s {b : Int → Int} {n so a : Int} {σ : Mu} (h : (lEle b n σ so a).1 = 0) : ∃ so' kd hd, (lEle b n σ so a).2.2.1 = addS σ so' kd hd := by
  unfold lEle at h ⊢
  by_cases h1 : (nK b n a).1 = 0
  · rw [if_neg (fun q => q h1)] at h ⊢
    by_cases h2 : tS σ % mlS σ + lok (nK b n a).2.2.1 ≤ mlS σ
    · rw [if_neg (fun q => q h2)] at h ⊢
      by_cases h3 : so = 0
      · rw [if_pos h3]; exact ⟨_, _, _, rfl⟩
      · rw [if_neg h3] at h ⊢
        by_cases h4 : (nP b n (nK b n a).2.2.2).1 = 0
        · rw [if_neg (fun q => q h4)]; exact ⟨_, _, _, rfl⟩
        · rw [if_pos h4] at h; exact absurd h h4
    · rw [if_pos h2] at h; exact absurd (show (5 : Int) = 0 from h) (by omega)
  · rw [if_pos h1] at h; exact absurd h h1
theorem TLD_met {b : Int → Int} {n a : Int} {σ μ μ1 : Mu} (h : TLD σ μ) (hl : (lMet b n σ a).1 = 0) (e : ∀ j : Int, μ1 43 j = if j = 0 then 1 else μ 43 j) (e2 : μ1 44 = μ 44) : TLD (lMet b n σ a).2.2.1 μ1 := by
  obtain ⟨g, g6, g5, g7⟩ := lMet_s hl
  unfold TLD at h ⊢
  rw [g6, g5, g7, g 8 (by omega), e2, e, e, e]
  exact ⟨rfl, h.2.1, h.2.2.1, h.2.2.2⟩
theorem TLD_kne {b : Int → Int} {n a : Int} {σ μ μ1 : Mu} (h : TLD σ μ) (hl : (lKne b n σ a).1 = 0) (e : ∀ j : Int, μ1 43 j = if j = 2 then 1 else μ 43 j) (e2 : μ1 44 = μ 44) : TLD (lKne b n σ a).2.2.1 μ1 := by
  obtain ⟨g, g6, g5, g7⟩ := lKne_s hl
  unfold TLD at h ⊢
  rw [g6, g5, g7, g 8 (by omega), e2, e, e, e]
  exact ⟨h.1, h.2.1, rfl, h.2.2.2⟩
theorem TLD_wid {b : Int → Int} {n a : Int} {σ μ μ1 : Mu} (h : TLD σ μ) (hl : (lWid b n σ a).1 = 0) (e : μ1 43 = μ 43) (e2 : ∀ k : Int, 0 ≤ k → k < 4 → μ1 44 k = wdS σ (bok (nK b n a).2.2.1) (nW b n 4 40 (nK b n a).2.2.2).2.2.1 8 k) : TLD (lWid b n σ a).2.2.1 μ1 := by
  rw [lWid_s hl]
  unfold TLD at h ⊢
  rw [e]
  have g : ∀ k v, wdS σ k v 0 = σ 0 := fun k v => by unfold wdS; rw [am_up_o (by omega), am_up_o (by omega)]
  rw [g]
  exact ⟨h.1, h.2.1, h.2.2.1, e2⟩
theorem TLD_ele {b : Int → Int} {n so a : Int} {σ μ μ1 : Mu} (h : TLD σ μ) (hl : (lEle b n σ so a).1 = 0) (e : μ1 43 = μ 43) (e2 : μ1 44 = μ 44) : TLD (lEle b n σ so a).2.2.1 μ1 := by
  obtain ⟨so', kd, hd, er⟩ := lEle_s hl
  obtain ⟨g, g0, gk, -⟩ := addS_f (σ := σ) (so := so') (kd := kd) (hd := hd)
  rw [er]
  unfold TLD at h ⊢
  rw [e, e2, gk 6 (by omega), gk 5 (by omega), gk 7 (by omega), g 8 (by omega)]
  exact h
/-- the parts' loop comes to parts in number from 1 to 6, tells nothing else -/
theorem spL_s {b : Int → Int} {n : Int} {σ : Mu} : ∀ (m : Nat) (σ1 : Mu) (k tg a : Int), (∀ o : Int, ¬ o = 6 → σ1 o = σ o) → 0 ≤ k → (0 < k ∨ 0 < m) → (spL b n m σ1 k tg a).1 = 0 → (∀ o : Int, ¬ o = 6 → (spL b n m σ1 k tg a).2.2.2.2.1 o = σ o) ∧ 0 < (spL b n m σ1 k tg a).2.2.1 := by
  intro m
  induction m with
  | zero => intro σ1 k tg a h h0 h1 _; exact ⟨h, by show 0 < k; omega⟩
  | succ m ih =>
    intro σ1 k tg a h h0 h1 hz
    by_cases hc : k = 0 ∨ (k ≤ 6 ∧ dgA b n a)
    · by_cases hw : (spW b n σ1 k tg a).1 = 0
      · rw [spL_go hc hw] at hz ⊢
        exact ih _ _ _ _ (fun o ho => by rw [am_up_o ho]; exact h o ho) (by omega) (Or.inl (by omega)) hz
      · rw [spL_bad hc hw] at hz; exact absurd hz hw
    · rw [spL_end hc]
      exact ⟨h, by show 0 < k; omega⟩
theorem TLD_spl {b : Int → Int} {n a : Int} {σ μ μ1 : Mu} (h : TLD σ μ) (hl : (lSpl b n σ a).1 = 0) (e : ∀ j : Int, μ1 43 j = if j = 1 then 1 else μ 43 j) (e2 : μ1 44 = μ 44) : TLD (lSpl b n σ a).2.2.1 μ1 := by
  unfold lSpl at hl ⊢
  by_cases h1 : (spL b n 8 σ 0 0 a).1 = 0
  · have hs := spL_s (b := b) (n := n) 8 σ 0 0 a (fun o _ => rfl) (by omega) (Or.inr (by omega)) h1
    rw [if_neg (fun q => q h1)] at hl ⊢
    by_cases h2 : (spL b n 8 σ 0 0 a).2.2.2.1 < σ 0 2 ∧ see b n (sk b n (spL b n 8 σ 0 0 a).2.2.2.2.2) = 59
    · rw [if_pos h2] at hl; exact absurd (show (5 : Int) = 0 from hl) (by omega)
    · rw [if_neg h2]
      have g : ∀ (τ : Mu) (v : Int), (∀ o : Int, ¬ o = 6 → τ o = σ o) → 0 < v → TLD (am_up τ 0 5 v) μ1 := by
        intro τ v hτ hv
        unfold TLD at h ⊢
        rw [am_up_nk (by omega), am_up_at, am_up_nk (by omega), am_up_o (by omega), hτ 0 (by omega), hτ 8 (by omega), e, e, e, e2]
        exact ⟨h.1, by rw [if_pos rfl, if_pos hv], h.2.2.1, h.2.2.2⟩
      exact g _ _ hs.1 hs.2
  · rw [if_pos h1] at hl; exact absurd hl h1
