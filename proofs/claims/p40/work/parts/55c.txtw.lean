/-! ===== Words, told by their letters ===== -/
theorem wln_r (i : Int) : wln i = 4 ∨ wln i = 5 := by unfold wln; split <;> omega
theorem wch_r {i k : Int} (hi : 0 ≤ i ∧ i ≤ 5) (hk : 0 ≤ k ∧ k < wln i) : 0 ≤ wch i k ∧ wch i k ≤ 255 := by
  obtain ⟨a, rfl⟩ : ∃ a : Nat, i = a := ⟨i.toNat, by omega⟩
  obtain ⟨j, rfl⟩ : ∃ j : Nat, k = j := ⟨k.toNat, by omega⟩
  have hl := (tx_len a (by omega)).2.1
  exact (tx_byt a (by omega) j (by omega)).2
section words
variable {b : Int → Int} {s e i k : Int}
theorem spd_f1 (h : ¬ e - s = wln i) : ¬ spd b s e i = true := by unfold spd; simp [h]
theorem spd_f2 (hk : 0 ≤ k ∧ k < wln i) (h : ¬ b (s + k) = wch i k) : ¬ spd b s e i = true := by
  unfold spd
  intro q
  rw [Bool.and_eq_true] at q
  exact h ((spI_all (by omega)).mp q.2 k hk.1 hk.2)
theorem spd_t (h : e - s = wln i) (hk : k = wln i) (hs : spI b s i k = true) : spd b s e i = true := by
  unfold spd
  rw [Bool.and_eq_true, decide_eq_true_iff]
  subst hk
  exact ⟨h, hs⟩
theorem wdC_0 (h : spd b s e 0 = true) : wdC b s e = 0 := by unfold wdC; rw [if_pos h]
theorem wdC_1 (h0 : ¬ spd b s e 0 = true) (h : spd b s e 1 = true) : wdC b s e = 1 := by unfold wdC; rw [if_neg h0, if_pos h]
theorem wdC_2 (h0 : ¬ spd b s e 0 = true) (h1 : ¬ spd b s e 1 = true) (h : spd b s e 2 = true) : wdC b s e = 2 := by unfold wdC; rw [if_neg h0, if_neg h1, if_pos h]
theorem wdC_3 (h0 : ¬ spd b s e 0 = true) (h1 : ¬ spd b s e 1 = true) (h2 : ¬ spd b s e 2 = true) (h : spd b s e 3 = true) : wdC b s e = 3 := by unfold wdC; rw [if_neg h0, if_neg h1, if_neg h2, if_pos h]
theorem wdC_4 (h0 : ¬ spd b s e 0 = true) (h1 : ¬ spd b s e 1 = true) (h2 : ¬ spd b s e 2 = true) (h3 : ¬ spd b s e 3 = true) (h : spd b s e 4 = true) : wdC b s e = 4 := by unfold wdC; rw [if_neg h0, if_neg h1, if_neg h2, if_neg h3, if_pos h]
theorem wdC_5 (h0 : ¬ spd b s e 0 = true) (h1 : ¬ spd b s e 1 = true) (h2 : ¬ spd b s e 2 = true) (h3 : ¬ spd b s e 3 = true) (h4 : ¬ spd b s e 4 = true) (h : spd b s e 5 = true) : wdC b s e = 5 := by unfold wdC; rw [if_neg h0, if_neg h1, if_neg h2, if_neg h3, if_neg h4, if_pos h]
theorem wdC_n (h0 : ¬ spd b s e 0 = true) (h1 : ¬ spd b s e 1 = true) (h2 : ¬ spd b s e 2 = true) (h3 : ¬ spd b s e 3 = true) (h4 : ¬ spd b s e 4 = true) (h5 : ¬ spd b s e 5 = true) : wdC b s e = -1 := by unfold wdC; rw [if_neg h0, if_neg h1, if_neg h2, if_neg h3, if_neg h4, if_neg h5]
end words
