/-! ===== What the class's reader and its piece hold of a TEXT ===== -/
def evn (μ : Mu) (p : Int) : Int := if μ p 2 = 8 ∧ μ p 1 % 3 = 0 then 3 else 1
theorem evn_r (μ : Mu) (p : Int) : evn μ p = 1 ∨ evn μ p = 3 := by unfold evn; split <;> simp
theorem up_if {μ : Mu} {o k v j : Int} : am_up μ o k v o j = if j = k then v else μ o j := by unfold am_up; rw [if_pos rfl]

def BB (b : Int → Int) (n : Int) : Prop := (0 ≤ n ∧ n ≤ 900) ∧ ∀ j, 0 ≤ j → j < n → 0 ≤ b j ∧ b j ≤ 255
theorem see_f (b : Int → Int) (n a : Int) (h : BB b n) (ha : 0 ≤ a) : -1 ≤ see b n a ∧ see b n a ≤ 255 := by
  unfold see
  split
  · have := h.2 a ha (by omega); omega
  · omega
def RDc (b : Int → Int) (n q : Int) (μ : Mu) : Prop := (μ 42 3 = n ∧ μ 42 7 = q ∧ (q = 20 ∨ q = 31)) ∧ BB b n ∧ ∀ j, 0 ≤ j → j < n → μ 2 j = b j
theorem RDc.l {b : Int → Int} {n q : Int} {μ : Mu} (h : RDc b n q μ) : μ 42 3 = n := h.1.1
theorem RDc.pq {b : Int → Int} {n q : Int} {μ : Mu} (h : RDc b n q μ) : μ 42 7 = q := h.1.2.1
theorem RDc.at {b : Int → Int} {n q : Int} {μ : Mu} (h : RDc b n q μ) : q = 20 ∨ q = 31 := h.1.2.2
theorem RDc.bb {b : Int → Int} {n q : Int} {μ : Mu} (h : RDc b n q μ) : BB b n := h.2.1
theorem RDc.n {b : Int → Int} {n q : Int} {μ : Mu} (h : RDc b n q μ) : 0 ≤ n ∧ n ≤ 900 := h.2.1.1
theorem RDc.b {b : Int → Int} {n q j : Int} {μ : Mu} (h : RDc b n q μ) (hj : 0 ≤ j ∧ j < n) : μ 2 j = b j := h.2.2 j hj.1 hj.2
theorem RDc.br {b : Int → Int} {n q j : Int} {μ : Mu} (h : RDc b n q μ) (hj : 0 ≤ j ∧ j < n) : 0 ≤ b j ∧ b j ≤ 255 := h.2.1.2 j hj.1 hj.2
theorem RDc.cg2 {b : Int → Int} {n q : Int} {μ μ1 : Mu} (h : RDc b n q μ) (e : ∀ o : Int, 2 ≤ o ∧ o ≤ 2 → μ1 o = μ o) (f : ∀ k : Int, k = 3 ∨ k = 7 → μ1 42 k = μ 42 k) : RDc b n q μ1 := by
  unfold RDc at h ⊢
  rw [f 3 (by omega), f 7 (by omega), e 2 (by omega)]
  exact h
theorem nW_1 {b : Int → Int} {n lo hi a : Int} (h : ¬ dgA b n a) : nW b n lo hi a = (1, sk b n a, 0, a) := by unfold nW; rw [if_pos h]
theorem nW_2 {b : Int → Int} {n lo hi a : Int} (h : dgA b n a) (hv : nval b n a < lo ∨ hi < nval b n a) : nW b n lo hi a = (2, sk b n a, 0, a) := by unfold nW; rw [if_neg (fun q => q h), if_pos hv]
theorem nW_0 {b : Int → Int} {n lo hi a : Int} (h : dgA b n a) (hv : lo ≤ nval b n a ∧ nval b n a ≤ hi) : nW b n lo hi a = (0, 0, nval b n a, de b n (sk b n a)) := by unfold nW; rw [if_neg (fun q => q h), if_neg (by omega)]
theorem nK_1 {b : Int → Int} {n a : Int} (h : ¬ dgA b n a) : nK b n a = (1, sk b n a, 0, a) := by unfold nK; rw [if_pos h]
theorem nK_2 {b : Int → Int} {n a : Int} (h : dgA b n a) (hv : ¬ (nval b n a = 4 ∨ nval b n a = 8 ∨ nval b n a = 16 ∨ nval b n a = 32)) : nK b n a = (2, sk b n a, 0, a) := by unfold nK; rw [if_neg (fun q => q h), if_pos hv]
theorem nK_0 {b : Int → Int} {n a : Int} (h : dgA b n a) (hv : nval b n a = 4 ∨ nval b n a = 8 ∨ nval b n a = 16 ∨ nval b n a = 32) : nK b n a = (0, 0, nval b n a, de b n (sk b n a)) := by unfold nK; rw [if_neg (fun q => q h), if_neg (fun q => q hv)]
theorem nP_1 {b : Int → Int} {n a : Int} (h : ¬ dgA b n (sg b n a)) : nP b n a = (1, sk b n (sg b n a), 0, a) := by unfold nP; rw [if_pos h]
theorem nP_2 {b : Int → Int} {n a : Int} (h : dgA b n (sg b n a)) (hv : 12 < nval b n (sg b n a)) : nP b n a = (2, sk b n a, 0, a) := by unfold nP; rw [if_neg (fun q => q h), if_pos hv]
theorem nP_0 {b : Int → Int} {n a : Int} (h : dgA b n (sg b n a)) (hv : nval b n (sg b n a) ≤ 12) : nP b n a = (0, 0, if see b n (sk b n a) = 45 then -nval b n (sg b n a) else nval b n (sg b n a), de b n (sk b n (sg b n a))) := by unfold nP; rw [if_neg (fun q => q h), if_neg (by omega)]
/-- a place that is in the TEXT, or right behind it -/
theorem dgA_lt {b : Int → Int} {n a : Int} (h : dgA b n a) : sk b n a < n := by
  unfold dgA see at h
  by_cases q : sk b n a < n
  · exact q
  · rw [if_neg q] at h; omega
theorem sg_r {b : Int → Int} {n a : Int} (h : a ≤ n) : sk b n a ≤ sg b n a ∧ sg b n a ≤ n := by
  have h1 := sk_r b n a h
  unfold sg see
  by_cases q : sk b n a < n
  · rw [if_pos q]; split <;> omega
  · rw [if_neg q, if_neg (by omega)]; omega
theorem nW_z {b : Int → Int} {n lo hi a : Int} (h : (nW b n lo hi a).1 = 0) : dgA b n a ∧ (lo ≤ nval b n a ∧ nval b n a ≤ hi) ∧ nW b n lo hi a = (0, 0, nval b n a, de b n (sk b n a)) := by
  by_cases h1 : dgA b n a
  · by_cases h2 : nval b n a < lo ∨ hi < nval b n a
    · rw [nW_2 h1 h2] at h; cases h
    · exact ⟨h1, by omega, nW_0 h1 (by omega)⟩
  · rw [nW_1 h1] at h; cases h
theorem nK_z {b : Int → Int} {n a : Int} (h : (nK b n a).1 = 0) : dgA b n a ∧ (nval b n a = 4 ∨ nval b n a = 8 ∨ nval b n a = 16 ∨ nval b n a = 32) ∧ nK b n a = (0, 0, nval b n a, de b n (sk b n a)) := by
  by_cases h1 : dgA b n a
  · by_cases h2 : nval b n a = 4 ∨ nval b n a = 8 ∨ nval b n a = 16 ∨ nval b n a = 32
    · exact ⟨h1, h2, nK_0 h1 h2⟩
    · rw [nK_2 h1 h2] at h; cases h
  · rw [nK_1 h1] at h; cases h
theorem nP_z {b : Int → Int} {n a : Int} (ha : a ≤ n) (h : (nP b n a).1 = 0) : dgA b n (sg b n a) ∧ (-12 ≤ (nP b n a).2.2.1 ∧ (nP b n a).2.2.1 ≤ 12) ∧ (nP b n a).2.2.2 = de b n (sk b n (sg b n a)) := by
  by_cases h1 : dgA b n (sg b n a)
  · by_cases h2 : 12 < nval b n (sg b n a)
    · rw [nP_2 h1 h2] at h; cases h
    · have h3 := nval_r (b := b) (n := n) (a := sg b n a) (sg_r ha).2
      rw [nP_0 h1 (by omega)]
      refine ⟨h1, ?_, rfl⟩
      show -12 ≤ (if see b n (sk b n a) = 45 then -nval b n (sg b n a) else nval b n (sg b n a)) ∧ (if see b n (sk b n a) = 45 then -nval b n (sg b n a) else nval b n (sg b n a)) ≤ 12
      split <;> omega
  · rw [nP_1 h1] at h; cases h
/-- a phase of the class -/
def rdP (r : Nres) (z : Int) (μ : Mu) : Prop := (z = 1 ∧ r.1 = 0 ∧ μ 42 5 = r.2.2.1 ∧ μ 42 4 = r.2.2.2) ∨ (z = 0 ∧ ¬ r.1 = 0 ∧ μ 42 0 = r.1 ∧ μ 42 1 = r.2.1)
theorem rdP_ok {r : Nres} {z v a : Int} {μ : Mu} (h : r = (0, 0, v, a)) (hz : z = 1) (h5 : μ 42 5 = v) (h4 : μ 42 4 = a) : rdP r z μ := by subst h; exact Or.inl ⟨hz, rfl, h5, h4⟩
theorem rdP_no {r : Nres} {z c pl v a : Int} {μ : Mu} (h : r = (c, pl, v, a)) (hc : ¬ c = 0) (hz : z = 0) (h0 : μ 42 0 = c) (h1 : μ 42 1 = pl) : rdP r z μ := by subst h; exact Or.inr ⟨hz, hc, h0, h1⟩
/-- what lines have made holds -/
def SOK (σ : Mu) : Prop := ((0 ≤ σ 0 0 ∧ σ 0 0 ≤ 64) ∧ 0 ≤ σ 0 1 ∧ (1 ≤ σ 0 2 ∧ σ 0 2 ≤ 12) ∧ (σ 0 3 = 2 ∨ σ 0 3 = 4 ∨ σ 0 3 = 8) ∧ (4 ≤ σ 0 4 ∧ σ 0 4 ≤ 24) ∧ (0 ≤ σ 0 5 ∧ σ 0 5 ≤ 6) ∧ (σ 0 6 = 0 ∨ σ 0 6 = 1) ∧ (σ 0 7 = 0 ∨ σ 0 7 = 1)) ∧
  (∀ j, 0 ≤ j → j < σ 0 0 → (σ 1 j = 4 ∨ σ 1 j = 8 ∨ σ 1 j = 16 ∨ σ 1 j = 32) ∧ (σ 2 j = 0 ∨ σ 2 j = 1) ∧ (-12 ≤ σ 3 j ∧ σ 3 j ≤ 12) ∧ (0 ≤ σ 4 j ∧ σ 4 j ≤ 8 * j) ∧ (0 ≤ σ 5 j ∧ σ 5 j ≤ 40 * j)) ∧
  (∀ k, 0 ≤ k → k < 4 → (4 ≤ σ 7 k ∧ σ 7 k ≤ 40) ∧ (σ 8 k = 0 ∨ σ 8 k = 1)) ∧ (∀ k, 0 ≤ k → k < σ 0 5 → 1 ≤ σ 6 k ∧ σ 6 k ≤ 12) ∧
  (0 < σ 0 0 → σ 4 0 = 0 ∧ σ 5 0 = 0) ∧ (∀ j, 0 ≤ j → j + 1 < σ 0 0 → σ 4 (j + 1) = σ 4 j + lok (σ 1 j) ∧ σ 5 (j + 1) = σ 5 j + σ 7 (bok (σ 1 j)))
theorem SOK.tx {σ : Mu} (h : SOK σ) : (0 ≤ tS σ ∧ tS σ ≤ 8 * σ 0 0) ∧ (0 ≤ xS σ ∧ xS σ ≤ 40 * σ 0 0) := by
  unfold tS xS
  by_cases e : σ 0 0 = 0
  · rw [if_pos e, if_pos e]; omega
  · rw [if_neg e, if_neg e]
    have h0 := h.1.1
    have h1 := h.2.1 (σ 0 0 - 1) (by omega) (by omega)
    have h2 := lok_r (σ 1 (σ 0 0 - 1))
    have h3 := bok_r (σ 1 (σ 0 0 - 1))
    have h4 := h.2.2.1 (bok (σ 1 (σ 0 0 - 1))) (by omega) (by omega)
    omega
/-- the piece q holds the state -/
def CPS (σ : Mu) (q : Int) (μ : Mu) : Prop := SOK σ ∧ (μ q 7 = σ 0 0 ∧ μ q 0 = σ 0 1 ∧ μ q 1 = σ 0 2 ∧ μ q 2 = σ 0 3 ∧ μ q 3 = σ 0 4) ∧
  (∀ j, 0 ≤ j → j < σ 0 0 → μ (q + 3) j = σ 1 j ∧ μ (q + 4) j = σ 2 j ∧ μ (q + 5) j = σ 3 j ∧ μ (q + 6) j = σ 4 j ∧ μ (q + 7) j = σ 5 j ∧ μ (q + 8) j = -1) ∧ (∀ k, 0 ≤ k → k < 4 → μ (q + 2) k = σ 7 k) ∧
  ((σ 0 5 = 0 ∧ μ q 4 * evn μ q = μ q 1 ∧ ∀ k, 0 ≤ k → k < μ q 4 → μ (q + 1) k = evn μ q) ∨ (1 ≤ σ 0 5 ∧ μ q 4 = σ 0 5 ∧ ∀ k, 0 ≤ k → k < σ 0 5 → μ (q + 1) k = σ 6 k))
theorem CPS.ok {σ : Mu} {q : Int} {μ : Mu} (h : CPS σ q μ) : SOK σ := h.1
theorem CPS.f7 {σ : Mu} {q : Int} {μ : Mu} (h : CPS σ q μ) : μ q 7 = σ 0 0 := h.2.1.1
theorem CPS.f0 {σ : Mu} {q : Int} {μ : Mu} (h : CPS σ q μ) : μ q 0 = σ 0 1 := h.2.1.2.1
theorem CPS.f1 {σ : Mu} {q : Int} {μ : Mu} (h : CPS σ q μ) : μ q 1 = σ 0 2 := h.2.1.2.2.1
theorem CPS.f2 {σ : Mu} {q : Int} {μ : Mu} (h : CPS σ q μ) : μ q 2 = σ 0 3 := h.2.1.2.2.2.1
theorem CPS.f3 {σ : Mu} {q : Int} {μ : Mu} (h : CPS σ q μ) : μ q 3 = σ 0 4 := h.2.1.2.2.2.2
theorem CPS.cg {σ : Mu} {q : Int} {μ μ1 : Mu} (h : CPS σ q μ) (e : ∀ o : Int, q ≤ o ∧ o ≤ q + 8 → μ1 o = μ o) : CPS σ q μ1 := by
  unfold CPS evn at h ⊢
  rw [e q (by omega), e (q + 1) (by omega), e (q + 2) (by omega), e (q + 3) (by omega), e (q + 4) (by omega), e (q + 5) (by omega), e (q + 6) (by omega), e (q + 7) (by omega), e (q + 8) (by omega)]
  exact h
theorem CPS.pi {σ : Mu} {q : Int} {μ : Mu} (h : CPS σ q μ) (hq : q = 20 ∨ q = 31) : PI μ q := by
  have hs := h.ok
  obtain ⟨h0, ⟨f7, f0, f1, f2, f3⟩, hr, hw, hp⟩ := h
  have hev := evn_r μ q
  have h9 : (1 ≤ μ q 4 ∧ μ q 4 ≤ 12) ∧ ∀ i, 0 ≤ i → i < μ q 4 → 1 ≤ μ (q + 1) i ∧ μ (q + 1) i ≤ 12 := by
    have hb := hs.1.2.2.1
    rw [← f1] at hb
    rcases hp with ⟨-, p1, p2⟩ | ⟨p1, p2, p3⟩
    · refine ⟨?_, fun i a c => by rw [p2 i a c]; omega⟩
      rcases hev with e | e <;> rw [e] at p1 <;> omega
    · have hp6 := hs.1.2.2.2.2.2.1
      refine ⟨by omega, fun i a c => ?_⟩
      rw [p3 i a (by omega)]
      exact hs.2.2.2.1 i a (by omega)
  refine ⟨hq, by rw [f1]; exact hs.1.2.2.1, by rw [f2]; exact hs.1.2.2.2.1, by rw [f7]; exact hs.1.1, fun i a c => ?_, fun i a c => ?_, h9.1, h9.2⟩
  · rw [f7] at c
    have h1 := hr i a c
    rw [h1.1, h1.2.1, h1.2.2.1, h1.2.2.2.1, h1.2.2.2.2.1]
    exact hs.2.1 i a c
  · rw [hw i a c]; exact (hs.2.2.1 i a c).1
theorem CPS.ml {σ : Mu} {q : Int} {μ : Mu} (h : CPS σ q μ) : mlg μ q = mlS σ := by unfold mlg mlS; rw [h.f1, h.f2]
theorem CPS.tn {σ : Mu} {q : Int} {μ : Mu} (h : CPS σ q μ) : tnx μ q = tS σ := by
  have hs := h.ok.1.1
  unfold tnx tS
  rw [h.f7]
  by_cases e : σ 0 0 = 0
  · rw [if_pos e, if_pos e]
  · have h1 := h.2.2.1 (σ 0 0 - 1) (by omega) (by omega)
    rw [if_neg e, if_neg e, h1.2.2.2.1, h1.1]
theorem CPS.xn {σ : Mu} {q : Int} {μ : Mu} (h : CPS σ q μ) : xnx μ q = xS σ := by
  have hs := h.ok.1.1
  unfold xnx xS
  rw [h.f7]
  by_cases e : σ 0 0 = 0
  · rw [if_pos e, if_pos e]
  · have h1 := h.2.2.1 (σ 0 0 - 1) (by omega) (by omega)
    have h2 := bok_r (σ 1 (σ 0 0 - 1))
    rw [if_neg e, if_neg e, h1.2.2.2.2.1, h1.1, h.2.2.2.1 _ (by omega) (by omega)]
/-- what a line of the class leaves -/
def rdL (r : Lres) (q z : Int) (μ : Mu) : Prop := (z = 1 ∧ r.1 = 0 ∧ CPS r.2.2.1 q μ ∧ μ 42 4 = r.2.2.2) ∨ (z = 0 ∧ ¬ r.1 = 0 ∧ μ 42 0 = r.1 ∧ μ 42 1 = r.2.1)
theorem rdL_ok {r : Lres} {q z a : Int} {σ μ : Mu} (h : r = (0, 0, σ, a)) (hz : z = 1) (h5 : CPS σ q μ) (h4 : μ 42 4 = a) : rdL r q z μ := by subst h; exact Or.inl ⟨hz, rfl, h5, h4⟩
theorem rdL_no {r : Lres} {q z a c pl : Int} {σ μ : Mu} (h : r = erL σ a c pl) (hc : ¬ c = 0) (hz : z = 0) (h0 : μ 42 0 = c) (h1 : μ 42 1 = pl) : rdL r q z μ := by subst h; exact Or.inr ⟨hz, hc, h0, h1⟩
theorem nval_f (b : Int → Int) (n a : Int) (h : a ≤ n) : 0 ≤ nval b n a ∧ nval b n a ≤ 100000 := nval_r h
