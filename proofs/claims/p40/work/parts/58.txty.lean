/-! ===== A whole TEXT; what the class's piece holds behind it ===== -/
theorem twn_cg {μ μ1 : Mu} {p i : Int} (e : ∀ o : Int, p ≤ o ∧ o ≤ p + 10 → μ1 o = μ o) : twn μ1 p i = twn μ p i := by
  unfold twn mlg
  rw [e p (by omega), e (p + 6) (by omega)]
theorem mof_cg {μ μ1 : Mu} {p i : Int} (e : ∀ o : Int, p ≤ o ∧ o ≤ p + 10 → μ1 o = μ o) : mof μ1 p i = mof μ p i := by
  unfold mof mlg
  rw [e p (by omega), e (p + 6) (by omega)]
theorem pof_cg {μ μ1 : Mu} {p i each : Int} (e : ∀ o : Int, p ≤ o ∧ o ≤ p + 10 → μ1 o = μ o) : pof μ1 p i each = pof μ p i each := by
  unfold pof
  rw [twn_cg e, e p (by omega), e (p + 1) (by omega)]
theorem runl_cg {μ μ1 : Mu} {p i each : Int} (e : ∀ o : Int, p ≤ o ∧ o ≤ p + 10 → μ1 o = μ o) : runl μ1 p i each = runl μ p i each := by
  unfold runl
  rw [e p (by omega)]
  have h1 : tog μ1 p i each = tog μ p i each := by
    funext j
    unfold tog
    rw [bmz_cg e, mof_cg e, mof_cg e, pof_cg e, pof_cg e]
  rw [h1]
abbrev rs3 (r r1 : Lres) : Prop := r.1 = r1.1 ∧ r.2.1 = r1.2.1 ∧ r.2.2.1 = r1.2.2.1
section rdn
variable {b : Int → Int} {n a : Int} {σ : Mu} {m : Nat}
theorem lnF_sk : lnF b n σ (sk b n a) = lnF b n σ a := by unfold lnF; rw [sk_sk]
theorem rdN_sk : rs3 (rdN b n m σ (sk b n a)) (rdN b n m σ a) := by
  cases m with
  | zero => exact ⟨rfl, rfl, rfl⟩
  | succ m =>
    rw [rdN, rdN, sk_sk, lnF_sk]
    by_cases h : n ≤ sk b n a
    · rw [if_pos h, if_pos h]; exact ⟨rfl, rfl, rfl⟩
    · rw [if_neg h, if_neg h]
      by_cases h1 : (lnF b n σ a).1 = 0
      · rw [if_neg (fun q => q h1), if_neg (fun q => q h1)]; exact ⟨rfl, rfl, rfl⟩
      · rw [if_pos h1, if_pos h1]; exact ⟨rfl, rfl, rfl⟩
theorem rdN_end (h : m = 0 ∨ n ≤ sk b n a) : rdN b n m σ a = (0, 0, σ, a) := by
  cases m with
  | zero => rfl
  | succ m => rw [rdN, if_pos (by omega)]
theorem rdN_bad (h : sk b n a < n) (h1 : ¬ (lnF b n σ a).1 = 0) : rdN b n (m + 1) σ a = erL σ a (lnF b n σ a).1 (lnF b n σ a).2.1 := by rw [rdN, if_neg (by omega), if_pos h1]
theorem rdN_go (h : sk b n a < n) (h1 : (lnF b n σ a).1 = 0) : rdN b n (m + 1) σ a = rdN b n m (am_up (lnF b n σ a).2.2.1 0 1 ((lnF b n σ a).2.2.1 0 1 + 1)) (lnF b n σ a).2.2.2 := by rw [rdN, if_neg (by omega), if_neg (fun q => q h1)]
end rdn
theorem SOK_ln {σ : Mu} (h : SOK σ) : SOK (am_up σ 0 1 (σ 0 1 + 1)) := by
  unfold SOK at h ⊢
  rw [am_up_at, am_up_nk (by omega), am_up_nk (by omega), am_up_nk (by omega), am_up_nk (by omega), am_up_nk (by omega), am_up_nk (by omega), am_up_nk (by omega), am_up_o (by omega), am_up_o (by omega), am_up_o (by omega), am_up_o (by omega), am_up_o (by omega), am_up_o (by omega), am_up_o (by omega), am_up_o (by omega)]
  exact ⟨⟨h.1.1, by have := h.1.2.1; omega, h.1.2.2⟩, h.2⟩
theorem CPS_ln {σ : Mu} {q : Int} {μ μ1 : Mu} (h : CPS σ q μ) (e : ∀ o : Int, q + 1 ≤ o ∧ o ≤ q + 8 → μ1 o = μ o) (f : ∀ k : Int, ¬ k = 0 → μ1 q k = μ q k) (e0 : μ1 q 0 = σ 0 1 + 1) : CPS (am_up σ 0 1 (σ 0 1 + 1)) q μ1 := by
  refine ⟨SOK_ln h.ok, ?_, ?_, ?_, ?_⟩
  · rw [am_up_at, am_up_nk (by omega), am_up_nk (by omega), am_up_nk (by omega), am_up_nk (by omega), f 7 (by omega), f 1 (by omega), f 2 (by omega), f 3 (by omega)]
    exact ⟨h.f7, e0, h.f1, h.f2, h.f3⟩
  · rw [am_up_nk (by omega), am_up_o (by omega), am_up_o (by omega), am_up_o (by omega), am_up_o (by omega), am_up_o (by omega), e (q + 3) (by omega), e (q + 4) (by omega), e (q + 5) (by omega), e (q + 6) (by omega), e (q + 7) (by omega), e (q + 8) (by omega)]
    exact h.2.2.1
  · rw [am_up_o (by omega), e (q + 2) (by omega)]; exact h.2.2.2.1
  · have h9 := h.2.2.2.2
    unfold evn at h9 ⊢
    rw [am_up_nk (by omega), am_up_o (by omega), f 4 (by omega), f 1 (by omega), f 2 (by omega), e (q + 1) (by omega)]
    exact h9
theorem TLD_ln {σ μ μ1 : Mu} (h : TLD σ μ) (e : ∀ o : Int, 43 ≤ o ∧ o ≤ 44 → μ1 o = μ o) : TLD (am_up σ 0 1 (σ 0 1 + 1)) μ1 := by
  have h1 := h.cg e
  unfold TLD at h1 ⊢
  rw [am_up_nk (by omega), am_up_nk (by omega), am_up_nk (by omega), am_up_o (by omega)]
  exact h1
theorem TLD_0 {μ : Mu} (h3 : ∀ k : Int, 0 ≤ k → k < 3 → μ 43 k = 0) (h4 : ∀ k : Int, 0 ≤ k → k < 4 → μ 44 k = 0) : TLD S0 μ := by
  refine ⟨h3 0 (by omega) (by omega), ?_, h3 2 (by omega) (by omega), fun k a c => h4 k a c⟩
  rw [h3 1 (by omega) (by omega)]
  rfl
theorem CPS.xx {σ : Mu} {q : Int} {μ : Mu} (h : CPS σ q μ) : ∀ j : Int, 0 ≤ j → j + 1 < μ q 7 → μ (q + 7) j + 4 ≤ μ (q + 7) (j + 1) ∧ μ (q + 7) (j + 1) ≤ μ (q + 7) j + 40 := by
  intro j a c
  rw [h.f7] at c
  have h1 := (h.2.2.1 j a (by omega)).2.2.2.2.1
  have h2 := (h.2.2.1 (j + 1) (by omega) c).2.2.2.2.1
  have h3 := (h.ok.2.2.2.2.2 j a c).2
  have h4 := bok_r (σ 1 j)
  have h5 := (h.ok.2.2.1 (bok (σ 1 j)) (by omega) (by omega)).1
  omega
theorem CPS.g8 {σ : Mu} {q : Int} {μ : Mu} (h : CPS σ q μ) : ∀ j : Int, 0 ≤ j → j < μ q 7 → μ (q + 8) j = -1 := fun j a c => (h.2.2.1 j a (by rw [← h.f7]; exact c)).2.2.2.2.2
/-- the piece with its groups -/
def CPG (σ : Mu) (q : Int) (μ : Mu) : Prop := SOK σ ∧ (μ q 7 = σ 0 0 ∧ μ q 0 = σ 0 1 ∧ μ q 1 = σ 0 2 ∧ μ q 2 = σ 0 3 ∧ μ q 3 = σ 0 4) ∧
  (∀ j, 0 ≤ j → j < σ 0 0 → μ (q + 3) j = σ 1 j ∧ μ (q + 4) j = σ 2 j ∧ μ (q + 5) j = σ 3 j ∧ μ (q + 6) j = σ 4 j ∧ μ (q + 7) j = σ 5 j) ∧ (∀ k, 0 ≤ k → k < 4 → μ (q + 2) k = σ 7 k) ∧
  ((σ 0 5 = 0 ∧ μ q 4 * evn μ q = μ q 1 ∧ ∀ k, 0 ≤ k → k < μ q 4 → μ (q + 1) k = evn μ q) ∨ (1 ≤ σ 0 5 ∧ μ q 4 = σ 0 5 ∧ ∀ k, 0 ≤ k → k < σ 0 5 → μ (q + 1) k = σ 6 k)) ∧
  PI μ q ∧ PG μ q ∧ prl (μ (q + 9)) (μ (q + 10)) (μ q 14) = seg (μ q 7) (fun j => runl μ q j 0) 0
theorem CPS.cpg {σ : Mu} {q : Int} {μ μ1 : Mu} (h : CPS σ q μ) (hI : PI μ q) (e : ∀ o : Int, q + 1 ≤ o ∧ o ≤ q + 7 → μ1 o = μ o) (f : ∀ k : Int, ¬ k = 14 → μ1 q k = μ q k) (hp : PG μ1 q ∧ prl (μ1 (q + 9)) (μ1 (q + 10)) (μ1 q 14) = seg (μ q 7) (fun j => runl μ q j 0) 0) : CPG σ q μ1 := by
  refine ⟨h.ok, ?_, ?_, ?_, ?_, hI.cg3 e f, hp.1, ?_⟩
  · rw [f 7 (by omega), f 0 (by omega), f 1 (by omega), f 2 (by omega), f 3 (by omega)]; exact h.2.1
  · rw [e (q + 3) (by omega), e (q + 4) (by omega), e (q + 5) (by omega), e (q + 6) (by omega), e (q + 7) (by omega)]
    intro j a c
    have h1 := h.2.2.1 j a c
    exact ⟨h1.1, h1.2.1, h1.2.2.1, h1.2.2.2.1, h1.2.2.2.2.1⟩
  · rw [e (q + 2) (by omega)]; exact h.2.2.2.1
  · have h9 := h.2.2.2.2
    unfold evn at h9 ⊢
    rw [f 4 (by omega), f 1 (by omega), f 2 (by omega), e (q + 1) (by omega)]
    exact h9
  · rw [hp.2, f 7 (by omega)]
    congr 1
    funext j
    exact (runl_cg3 e f).symm
theorem CPG.cg {σ : Mu} {q : Int} {μ μ1 : Mu} (h : CPG σ q μ) (e : ∀ o : Int, q ≤ o ∧ o ≤ q + 10 → μ1 o = μ o) : CPG σ q μ1 := by
  have h1 : (fun j => runl μ1 q j 0) = fun j => runl μ q j 0 := funext fun j => runl_cg e
  have hI := PI.cg3 h.2.2.2.2.2.1 (fun o a => e o (by omega)) (fun k _ => congrFun (e q (by omega)) k)
  have hG := PG.cg h.2.2.2.2.2.2.1 e
  unfold CPG at h ⊢
  unfold evn at h ⊢
  rw [h1, e q (by omega), e (q + 1) (by omega), e (q + 2) (by omega), e (q + 3) (by omega), e (q + 4) (by omega), e (q + 5) (by omega), e (q + 6) (by omega), e (q + 7) (by omega), e (q + 9) (by omega), e (q + 10) (by omega)]
  exact ⟨h.1, h.2.1, h.2.2.1, h.2.2.2.1, h.2.2.2.2.1, hI, hG, h.2.2.2.2.2.2.2⟩
/-- what a whole TEXT leaves -/
def rdR (r : Lres) (q z : Int) (μ : Mu) : Prop := (z = 1 ∧ r.1 = 0 ∧ CPG r.2.2.1 q μ ∧ μ 42 0 = 0 ∧ μ 42 1 = -1) ∨ (z = 0 ∧ ¬ r.1 = 0 ∧ μ 42 0 = r.1 ∧ μ 42 1 = r.2.1)
theorem rs3_tr {r r1 r2 : Lres} (h : rs3 r r1) (h2 : rs3 r1 r2) : rs3 r r2 := ⟨h.1.trans h2.1, h.2.1.trans h2.2.1, h.2.2.trans h2.2.2⟩
