/-! ===== What a token tells; the reference's new piece as lines make it ===== -/
section tk
variable {b : Int → Int} {n s a : Int} {μ μ1 : Mu}
theorem TK.cg (h : TK b n s μ) (f : ∀ k : Int, 37 ≤ k → k ≤ 40 → μ1 45 k = μ 45 k) : TK b n s μ1 := by
  unfold TK at h ⊢
  rw [f 37 (by omega) (by omega), f 38 (by omega) (by omega), f 39 (by omega) (by omega), f 40 (by omega) (by omega)]
  exact h
theorem TK.fr (h : TK b n s μ) : μ 45 38 = s := h.1
theorem TK.r (h : TK b n s μ) : 0 ≤ μ 45 39 ∧ μ 45 39 ≤ 4 := by
  rcases h.2 with q | q | q | q
  · omega
  · omega
  · omega
  · rcases q.2.1 with e | e <;> omega
theorem nvR_dg (h : 0 ≤ s ∧ s ≤ n) : (0 ≤ nval b n s ∧ nval b n s ≤ 100000) ∧ ((nvR b (sk b n s) (de b n (sk b n s) - sk b n s) = nval b n s ∧ nval b n s ≤ 1000) ∨ (1000 < nvR b (sk b n s) (de b n (sk b n s) - sk b n s) ∧ 1000 < nval b n s)) ∧ nvR b (sk b n s) (de b n (sk b n s) - sk b n s) ≤ 10009 ∧ 0 ≤ nvR b (sk b n s) (de b n (sk b n s) - sk b n s) := by
  have h1 := sk_r b n s h.2
  have h2 := de_r b n (sk b n s) h1.2
  have h3 := nv_two (b := b) (s := sk b n s) (m := de b n (sk b n s) - sk b n s) (fun j q1 q2 => de_all h1.2 (by omega) (by omega)) _ (by omega) (Int.le_refl _)
  exact ⟨h3.1, h3.2.2, h3.2.1.2, h3.2.1.1⟩
theorem TK.v (h : TK b n (sk b n a) μ) (hb : BB b n) (ha : 0 ≤ a ∧ a ≤ n) : -1 ≤ μ 45 40 ∧ μ 45 40 < 1073741824 := by
  have h1 := sk_r b n a ha.2
  rcases h.2 with q | q | q | q
  · omega
  · have h2 := we_r b n (sk b n a) h1.2
    have h3 := hvl_r (b := b) (s := sk b n a) (m := we b n (sk b n a) - sk b n a) (fun j q1 q2 => we_all h1.2 (by omega) (by omega)) _ (by omega) (Int.le_refl _)
    omega
  · have := nvR_dg (b := b) ha; omega
  · have := see_f b n (sk b n a) hb (by omega); omega
theorem TK.at (h : TK b n (sk b n a) μ) (ha : 0 ≤ a ∧ a ≤ n) : 0 ≤ μ 45 37 ∧ μ 45 37 ≤ n := by
  have h1 := sk_r b n a ha.2
  rcases h.2 with q | q | q | q
  · omega
  · have h2 := we_r b n (sk b n a) h1.2; omega
  · have h2 := de_r b n (sk b n a) h1.2; omega
  · have := see_in q.1.1; omega
theorem TK.n2 (h : TK b n (sk b n a) μ) (e : ¬ μ 45 39 = 2) : ¬ dgA b n a := by
  unfold dgA
  rcases h.2 with q | q | q | q
  · omega
  · omega
  · omega
  · exact q.1.2.2
/-- a number stands here -/
def nHr (b : Int → Int) (n a : Int) (μ : Mu) : Prop := dgA b n a ∧ μ 45 37 = de b n (sk b n a) ∧ ((μ 45 40 = nval b n a ∧ nval b n a ≤ 1000) ∨ (1000 < μ 45 40 ∧ 1000 < nval b n a)) ∧ (0 ≤ nval b n a ∧ nval b n a ≤ 100000)
theorem TK.t2 (h : TK b n (sk b n a) μ) (e : μ 45 39 = 2) (ha : 0 ≤ a ∧ a ≤ n) : nHr b n a μ := by
  rcases h.2 with q | q | q | q
  · omega
  · omega
  · have h3 := nvR_dg (b := b) ha
    exact ⟨q.1, q.2.2.2, by rw [q.2.2.1]; exact h3.2.1, h3.1⟩
  · rcases q.2.1 with e9 | e9 <;> omega
theorem TK.wd (h : TK b n s μ) (e : μ 45 39 = 1) : (97 ≤ see b n s ∧ see b n s ≤ 122) ∧ μ 45 40 = hvl b s (we b n s - s) ∧ μ 45 37 = we b n s := by
  rcases h.2 with q | q | q | q
  · omega
  · exact ⟨q.1, q.2.2⟩
  · omega
  · rcases q.2.1 with e9 | e9 <;> omega
theorem TK.mk (h : TK b n s μ) {c : Int} (hc : c = 59 ∨ c = 45) : (μ 45 39 = 3 ∧ μ 45 40 = c) ↔ see b n s = c := by
  rcases h.2 with q | q | q | q
  · omega
  · omega
  · omega
  · rcases q.2.1 with e9 | e9
    · constructor
      · intro z; omega
      · intro z; exact ⟨e9.2, by omega⟩
    · constructor
      · intro z; omega
      · intro z; exact absurd (show see b n s = 59 ∨ see b n s = 45 by omega) e9.1
theorem TK.mn (h : TK b n s μ) {c : Int} (e : see b n s = c) (hc : c = 59 ∨ c = 45) : μ 45 37 = s + 1 := by
  rcases h.2 with q | q | q | q
  · omega
  · omega
  · omega
  · exact q.2.2.2
end tk
/-- what a number's reading leaves -/
def tkN (b : Int → Int) (n : Int) (r : Nres) (z : Int) (μ μ1 : Mu) : Prop := (r.1 = 0 ∧ z = r.2.2.1 ∧ μ1 45 43 = 0 ∧ TK b n (sk b n r.2.2.2) μ1 ∧ (0 ≤ r.2.2.2 ∧ r.2.2.2 ≤ n) ∧ μ1 45 41 = μ 45 41 ∧ μ1 45 42 = μ 45 42) ∨ (¬ r.1 = 0 ∧ μ1 45 43 = 1 ∧ μ1 45 41 = r.1 ∧ μ1 45 42 = r.2.1)
theorem tkN_ok {b : Int → Int} {n z v e : Int} {r : Nres} {μ μ1 : Mu} (h : r = (0, 0, v, e)) (hz : z = v) (h3 : μ1 45 43 = 0) (hk : TK b n (sk b n e) μ1) (he : 0 ≤ e ∧ e ≤ n) (h1 : μ1 45 41 = μ 45 41) (h2 : μ1 45 42 = μ 45 42) : tkN b n r z μ μ1 := by subst h; exact Or.inl ⟨rfl, hz, h3, hk, he, h1, h2⟩
theorem tkN_no {b : Int → Int} {n z c pl e v : Int} {r : Nres} {μ μ1 : Mu} (h : r = (c, pl, v, e)) (hc : ¬ c = 0) (h3 : μ1 45 43 = 1) (h1 : μ1 45 41 = c) (h2 : μ1 45 42 = pl) : tkN b n r z μ μ1 := by subst h; exact Or.inr ⟨hc, h3, h1, h2⟩
/-- the new piece, as lines make it -/
def RPS (σ : Mu) (μ : Mu) : Prop := SOK σ ∧ (μ 45 44 = σ 0 2 ∧ μ 45 45 = σ 0 3 ∧ μ 45 47 = σ 0 5 ∧ μ 45 48 = σ 0 4 ∧ μ 45 50 = σ 0 0 ∧ μ 45 54 = σ 0 6 ∧ μ 45 55 = σ 0 7 ∧ μ 45 57 = tS σ) ∧
  (∀ k, 0 ≤ k → k < σ 0 5 → μ 63 k = σ 6 k) ∧ (∀ k, 0 ≤ k → k < 4 → μ 64 k = σ 7 k ∧ μ 68 k = σ 8 k) ∧ (∀ j, 0 ≤ j → j < σ 0 0 → μ 65 j = bok (σ 1 j) ∧ μ 66 j = σ 2 j ∧ μ 67 j = σ 3 j)
section rps
variable {σ μ μ1 : Mu} {k v u : Int}
theorem RPS.ok (h : RPS σ μ) : SOK σ := h.1
theorem RPS.bt (h : RPS σ μ) : μ 45 44 = σ 0 2 := h.2.1.1
theorem RPS.un (h : RPS σ μ) : μ 45 45 = σ 0 3 := h.2.1.2.1
theorem RPS.pm (h : RPS σ μ) : μ 45 47 = σ 0 5 := h.2.1.2.2.1
theorem RPS.kn (h : RPS σ μ) : μ 45 48 = σ 0 4 := h.2.1.2.2.2.1
theorem RPS.el (h : RPS σ μ) : μ 45 50 = σ 0 0 := h.2.1.2.2.2.2.1
theorem RPS.hm (h : RPS σ μ) : μ 45 54 = σ 0 6 := h.2.1.2.2.2.2.2.1
theorem RPS.hk (h : RPS σ μ) : μ 45 55 = σ 0 7 := h.2.1.2.2.2.2.2.2.1
theorem RPS.nt (h : RPS σ μ) : μ 45 57 = tS σ := h.2.1.2.2.2.2.2.2.2
theorem RPS.hw (h : RPS σ μ) (hk : 0 ≤ k ∧ k < 4) : μ 68 k = σ 8 k := (h.2.2.2.1 k hk.1 hk.2).2
theorem RPS.cg2 (h : RPS σ μ) (e : ∀ o : Int, 63 ≤ o ∧ o ≤ 68 → μ1 o = μ o) (f : ∀ k : Int, (44 ≤ k ∧ k ≤ 57) → μ1 45 k = μ 45 k) : RPS σ μ1 := by
  unfold RPS at h ⊢
  rw [f 44 (by omega), f 45 (by omega), f 47 (by omega), f 48 (by omega), f 50 (by omega), f 54 (by omega), f 55 (by omega), f 57 (by omega), e 63 (by omega), e 64 (by omega), e 65 (by omega), e 66 (by omega), e 67 (by omega), e 68 (by omega)]
  exact h
theorem RPS_met (h : RPS σ μ) (h0 : σ 0 0 = 0) (hv : 1 ≤ v ∧ v ≤ 12) (hu : u = 2 ∨ u = 4 ∨ u = 8) (e : ∀ o : Int, 63 ≤ o ∧ o ≤ 68 → μ1 o = μ o) (f : ∀ k : Int, (44 ≤ k ∧ k ≤ 57 ∧ ¬ k = 44 ∧ ¬ k = 45 ∧ ¬ k = 54) → μ1 45 k = μ 45 k) (e1 : μ1 45 44 = v) (e2 : μ1 45 45 = u) (e3 : μ1 45 54 = 1) : RPS (metS σ v u) μ1 := by
  obtain ⟨g, g2, g3, g6, gk⟩ := metS_f (σ := σ) (v := v) (u := u)
  have ht : tS (metS σ v u) = tS σ := by unfold tS; rw [gk 0 (by omega) (by omega) (by omega), if_pos h0, if_pos h0]
  unfold RPS
  rw [ht, g2, g3, g6, gk 0 (by omega) (by omega) (by omega), gk 4 (by omega) (by omega) (by omega), gk 5 (by omega) (by omega) (by omega), gk 7 (by omega) (by omega) (by omega), g 1 (by omega), g 2 (by omega), g 3 (by omega), g 6 (by omega), g 7 (by omega), g 8 (by omega), e1, e2, e3, f 47 (by omega), f 48 (by omega), f 50 (by omega), f 55 (by omega), f 57 (by omega), e 63 (by omega), e 64 (by omega), e 65 (by omega), e 66 (by omega), e 67 (by omega), e 68 (by omega)]
  exact ⟨SOK_met h.ok hv hu, ⟨rfl, rfl, h.pm, h.kn, h.el, rfl, h.hk, h.nt⟩, h.2.2⟩
theorem RPS_kn (h : RPS σ μ) (hv : 4 ≤ v ∧ v ≤ 24) (e : ∀ o : Int, 63 ≤ o ∧ o ≤ 68 → μ1 o = μ o) (f : ∀ k : Int, (44 ≤ k ∧ k ≤ 57 ∧ ¬ k = 48 ∧ ¬ k = 55) → μ1 45 k = μ 45 k) (e1 : μ1 45 48 = v) (e3 : μ1 45 55 = 1) : RPS (knS σ v) μ1 := by
  obtain ⟨g, g4, g7, gk⟩ := knS_f (σ := σ) (v := v)
  have hs := h.ok
  have ht : tS (knS σ v) = tS σ := by unfold tS; rw [gk 0 (by omega) (by omega), g 1 (by omega), g 4 (by omega)]
  have ho : SOK (knS σ v) := by
    unfold SOK at hs ⊢
    rw [g4, g7, gk 0 (by omega) (by omega), gk 1 (by omega) (by omega), gk 2 (by omega) (by omega), gk 3 (by omega) (by omega), gk 5 (by omega) (by omega), gk 6 (by omega) (by omega), g 1 (by omega), g 2 (by omega), g 3 (by omega), g 4 (by omega), g 5 (by omega), g 6 (by omega), g 7 (by omega), g 8 (by omega)]
    exact ⟨⟨hs.1.1, hs.1.2.1, hs.1.2.2.1, hs.1.2.2.2.1, hv, hs.1.2.2.2.2.2.1, hs.1.2.2.2.2.2.2.1, Or.inr rfl⟩, hs.2⟩
  unfold RPS
  rw [ht, g4, g7, gk 0 (by omega) (by omega), gk 2 (by omega) (by omega), gk 3 (by omega) (by omega), gk 5 (by omega) (by omega), gk 6 (by omega) (by omega), g 1 (by omega), g 2 (by omega), g 3 (by omega), g 6 (by omega), g 7 (by omega), g 8 (by omega), e1, e3, f 44 (by omega), f 45 (by omega), f 47 (by omega), f 50 (by omega), f 54 (by omega), f 57 (by omega), e 63 (by omega), e 64 (by omega), e 65 (by omega), e 66 (by omega), e 67 (by omega), e 68 (by omega)]
  exact ⟨ho, ⟨h.bt, h.un, h.pm, rfl, h.el, h.hm, rfl, h.nt⟩, h.2.2⟩
end rps
/-- a line from its word on, its end left out -/
def ln0 (b : Int → Int) (n : Int) (σ : Mu) (w s e : Int) : Lres := if w = -1 ∨ tooL σ w then erL σ s 1 s else if w ≤ 2 ∧ ¬ tldS σ w = 0 then erL σ s 3 s else if 4 ≤ w ∧ 64 ≤ σ 0 0 then erL σ s 4 s else lBod b n σ w e
theorem lnW_ln0 {b : Int → Int} {n w s e : Int} {σ : Mu} : lnW b n σ w s e = lEnd b n (ln0 b n σ w s e) := by
  have h3 : ∀ c : Int, ¬ c = 0 → lEnd b n (erL σ s c s) = erL σ s c s := fun c hc => lEnd_b hc
  unfold lnW ln0
  split
  · exact (h3 1 (by omega)).symm
  · split
    · exact (h3 3 (by omega)).symm
    · split
      · exact (h3 4 (by omega)).symm
      · rfl
theorem ln0_1 {b : Int → Int} {n w s e : Int} {σ : Mu} (h : w = -1 ∨ tooL σ w) : ln0 b n σ w s e = erL σ s 1 s := by unfold ln0; rw [if_pos h]
theorem ln0_3 {b : Int → Int} {n w s e : Int} {σ : Mu} (h : ¬ (w = -1 ∨ tooL σ w)) (h3 : w ≤ 2 ∧ ¬ tldS σ w = 0) : ln0 b n σ w s e = erL σ s 3 s := by unfold ln0; rw [if_neg h, if_pos h3]
theorem ln0_4 {b : Int → Int} {n w s e : Int} {σ : Mu} (h : ¬ (w = -1 ∨ tooL σ w)) (h3 : ¬ (w ≤ 2 ∧ ¬ tldS σ w = 0)) (h4 : 4 ≤ w ∧ 64 ≤ σ 0 0) : ln0 b n σ w s e = erL σ s 4 s := by unfold ln0; rw [if_neg h, if_neg h3, if_pos h4]
theorem ln0_b {b : Int → Int} {n w s e : Int} {σ : Mu} (h : ¬ (w = -1 ∨ tooL σ w)) (h3 : ¬ (w ≤ 2 ∧ ¬ tldS σ w = 0)) (h4 : ¬ (4 ≤ w ∧ 64 ≤ σ 0 0)) : ln0 b n σ w s e = lBod b n σ w e := by unfold ln0; rw [if_neg h, if_neg h3, if_neg h4]
/-- what a line's reading leaves in the reference -/
def tkL (b : Int → Int) (n : Int) (r : Lres) (μ μ1 : Mu) : Prop := (r.1 = 0 ∧ RPS r.2.2.1 μ1 ∧ μ1 45 43 = 0 ∧ TK b n (sk b n r.2.2.2) μ1 ∧ (0 ≤ r.2.2.2 ∧ r.2.2.2 ≤ n) ∧ μ1 45 41 = μ 45 41 ∧ μ1 45 42 = μ 45 42) ∨ (¬ r.1 = 0 ∧ μ1 45 43 = 1 ∧ μ1 45 41 = r.1 ∧ μ1 45 42 = r.2.1)
theorem tkL_no {b : Int → Int} {n c pl a : Int} {r : Lres} {σ μ μ1 : Mu} (h : r = erL σ a c pl) (hc : ¬ c = 0) (h3 : μ1 45 43 = 1) (h1 : μ1 45 41 = c) (h2 : μ1 45 42 = pl) : tkL b n r μ μ1 := by subst h; exact Or.inr ⟨hc, h3, h1, h2⟩
theorem tkL_ok {b : Int → Int} {n e : Int} {r : Lres} {σ μ μ1 : Mu} (h : r = (0, 0, σ, e)) (hp : RPS σ μ1) (h3 : μ1 45 43 = 0) (hk : TK b n (sk b n e) μ1) (he : 0 ≤ e ∧ e ≤ n) (h1 : μ1 45 41 = μ 45 41) (h2 : μ1 45 42 = μ 45 42) : tkL b n r μ μ1 := by subst h; exact Or.inl ⟨rfl, hp, h3, hk, he, h1, h2⟩
