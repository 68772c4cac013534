/-! ===== A word by its number ===== -/
def Lw (i : Int) : Int := if i = 0 then 13816389 else if i = 1 then 20459828 else if i = 2 then 374949 else if i = 3 then 763013 else if i = 4 then 474757 else 595572
section hash
variable {b : Int → Int} {s e : Int}
theorem hvl_n {k : Int} (h : 0 ≤ k) (h6 : k < 6) : hvl b s (k + 1) = hvl b s k * 32 + (b (s + k) - 96) := by rw [hvl_s h, if_pos h6]
theorem hvl_4 : hvl b s 4 = (((b (s + 0) - 96) * 32 + (b (s + 1) - 96)) * 32 + (b (s + 2) - 96)) * 32 + (b (s + 3) - 96) := by
  have h0 : hvl b s 0 = 0 := rfl
  have h1 : hvl b s 1 = hvl b s 0 * 32 + (b (s + 0) - 96) := hvl_n (k := 0) (by omega) (by omega)
  have h2 : hvl b s 2 = hvl b s 1 * 32 + (b (s + 1) - 96) := hvl_n (k := 1) (by omega) (by omega)
  have h3 : hvl b s 3 = hvl b s 2 * 32 + (b (s + 2) - 96) := hvl_n (k := 2) (by omega) (by omega)
  have h4 : hvl b s 4 = hvl b s 3 * 32 + (b (s + 3) - 96) := hvl_n (k := 3) (by omega) (by omega)
  omega
theorem hvl_5 : hvl b s 5 = ((((b (s + 0) - 96) * 32 + (b (s + 1) - 96)) * 32 + (b (s + 2) - 96)) * 32 + (b (s + 3) - 96)) * 32 + (b (s + 4) - 96) := by
  have h5 : hvl b s 5 = hvl b s 4 * 32 + (b (s + 4) - 96) := hvl_n (k := 4) (by omega) (by omega)
  rw [h5, hvl_4]
theorem hvl_6 : hvl b s 6 = (((((b (s + 0) - 96) * 32 + (b (s + 1) - 96)) * 32 + (b (s + 2) - 96)) * 32 + (b (s + 3) - 96)) * 32 + (b (s + 4) - 96)) * 32 + (b (s + 5) - 96) := by
  have h6 : hvl b s 6 = hvl b s 5 * 32 + (b (s + 5) - 96) := hvl_n (k := 5) (by omega) (by omega)
  rw [h6, hvl_5]
theorem hvl_7 {k : Int} (h : 7 ≤ k) : hvl b s k = 0 := by
  have := hvl_s (b := b) (s := s) (k := k - 1) (by omega)
  rw [show k - 1 + 1 = k by omega, if_neg (by omega)] at this
  exact this
/-- of what length a word is whose number is so great -/
theorem hvl_len {k : Int} (hl : ∀ j, 0 ≤ j → j < k → 97 ≤ b (s + j) ∧ b (s + j) ≤ 122) (hk : 0 ≤ k) : (374949 ≤ hvl b s k → hvl b s k < 1048576 → k = 4) ∧ (1048576 ≤ hvl b s k → hvl b s k < 33554432 → k = 5) := by
  have hr := hvl_r hl k hk (Int.le_refl _)
  by_cases h7 : 7 ≤ k
  · rw [hvl_7 h7]; omega
  · by_cases h6 : k = 6
    · subst h6
      have h0 := hl 0 (by omega) (by omega); have h1 := hl 1 (by omega) (by omega); have h2 := hl 2 (by omega) (by omega); have h3 := hl 3 (by omega) (by omega); have h4 := hl 4 (by omega) (by omega); have h5 := hl 5 (by omega) (by omega)
      rw [hvl_6]
      omega
    · by_cases h5 : k = 5
      · subst h5
        have h0 := hl 0 (by omega) (by omega); have h1 := hl 1 (by omega) (by omega); have h2 := hl 2 (by omega) (by omega); have h3 := hl 3 (by omega) (by omega); have h4 := hl 4 (by omega) (by omega)
        rw [hvl_5]
        omega
      · omega
theorem spI_4 {i : Int} : spI b s i 4 = true ↔ b (s + 0) = wch i 0 ∧ b (s + 1) = wch i 1 ∧ b (s + 2) = wch i 2 ∧ b (s + 3) = wch i 3 := by
  rw [spI_all (by omega)]
  constructor
  · intro h; exact ⟨h 0 (by omega) (by omega), h 1 (by omega) (by omega), h 2 (by omega) (by omega), h 3 (by omega) (by omega)⟩
  · rintro ⟨h0, h1, h2, h3⟩ j a c
    rcases (show j = 0 ∨ j = 1 ∨ j = 2 ∨ j = 3 by omega) with e | e | e | e <;> subst e <;> assumption
theorem spI_5 {i : Int} : spI b s i 5 = true ↔ b (s + 0) = wch i 0 ∧ b (s + 1) = wch i 1 ∧ b (s + 2) = wch i 2 ∧ b (s + 3) = wch i 3 ∧ b (s + 4) = wch i 4 := by
  rw [spI_all (by omega)]
  constructor
  · intro h; exact ⟨h 0 (by omega) (by omega), h 1 (by omega) (by omega), h 2 (by omega) (by omega), h 3 (by omega) (by omega), h 4 (by omega) (by omega)⟩
  · rintro ⟨h0, h1, h2, h3, h4⟩ j a c
    rcases (show j = 0 ∨ j = 1 ∨ j = 2 ∨ j = 3 ∨ j = 4 by omega) with e | e | e | e | e <;> subst e <;> assumption
theorem wch_v : (wch 0 0 = 109 ∧ wch 0 1 = 101 ∧ wch 0 2 = 116 ∧ wch 0 3 = 114 ∧ wch 0 4 = 101) ∧ (wch 1 0 = 115 ∧ wch 1 1 = 112 ∧ wch 1 2 = 108 ∧ wch 1 3 = 105 ∧ wch 1 4 = 116) ∧ (wch 2 0 = 107 ∧ wch 2 1 = 110 ∧ wch 2 2 = 101 ∧ wch 2 3 = 101) ∧ (wch 3 0 = 119 ∧ wch 3 1 = 105 ∧ wch 3 2 = 100 ∧ wch 3 3 = 101) ∧ (wch 4 0 = 110 ∧ wch 4 1 = 111 ∧ wch 4 2 = 116 ∧ wch 4 3 = 101) ∧ (wch 5 0 = 114 ∧ wch 5 1 = 101 ∧ wch 5 2 = 115 ∧ wch 5 3 = 116) := by decide +kernel
theorem spd_h {i : Int} (hi : 0 ≤ i ∧ i ≤ 5) (hk : s ≤ e) (hl : ∀ j, 0 ≤ j → j < e - s → 97 ≤ b (s + j) ∧ b (s + j) ≤ 122) : spd b s e i = true ↔ hvl b s (e - s) = Lw i := by
  have hlen := hvl_len hl (by omega)
  have hw := wch_v
  have hd : spd b s e i = true ↔ e - s = wln i ∧ spI b s i (wln i) = true := by unfold spd; rw [Bool.and_eq_true, decide_eq_true_iff]
  rw [hd]
  have key4 : (wln i = 4) → 374949 ≤ Lw i → Lw i < 1048576 → (∀ x0 x1 x2 x3 : Int, 97 ≤ x0 → x0 ≤ 122 → 97 ≤ x1 → x1 ≤ 122 → 97 ≤ x2 → x2 ≤ 122 → 97 ≤ x3 → x3 ≤ 122 → ((x0 = wch i 0 ∧ x1 = wch i 1 ∧ x2 = wch i 2 ∧ x3 = wch i 3) ↔ (((x0 - 96) * 32 + (x1 - 96)) * 32 + (x2 - 96)) * 32 + (x3 - 96) = Lw i)) → (e - s = wln i ∧ spI b s i (wln i) = true ↔ hvl b s (e - s) = Lw i) := by
    intro hn l1 l2 hx
    rw [hn]
    constructor
    · rintro ⟨h1, h2⟩
      have h0 := hl 0 (by omega) (by omega); have h1' := hl 1 (by omega) (by omega); have h2' := hl 2 (by omega) (by omega); have h3' := hl 3 (by omega) (by omega)
      rw [h1, hvl_4]
      exact (hx _ _ _ _ h0.1 h0.2 h1'.1 h1'.2 h2'.1 h2'.2 h3'.1 h3'.2).mp (spI_4.mp h2)
    · intro h
      have h4 : e - s = 4 := hlen.1 (by omega) (by omega)
      have h0 := hl 0 (by omega) (by omega); have h1' := hl 1 (by omega) (by omega); have h2' := hl 2 (by omega) (by omega); have h3' := hl 3 (by omega) (by omega)
      rw [h4, hvl_4] at h
      exact ⟨h4, spI_4.mpr ((hx _ _ _ _ h0.1 h0.2 h1'.1 h1'.2 h2'.1 h2'.2 h3'.1 h3'.2).mpr h)⟩
  have key5 : (wln i = 5) → 1048576 ≤ Lw i → Lw i < 33554432 → (∀ x0 x1 x2 x3 x4 : Int, 97 ≤ x0 → x0 ≤ 122 → 97 ≤ x1 → x1 ≤ 122 → 97 ≤ x2 → x2 ≤ 122 → 97 ≤ x3 → x3 ≤ 122 → 97 ≤ x4 → x4 ≤ 122 → ((x0 = wch i 0 ∧ x1 = wch i 1 ∧ x2 = wch i 2 ∧ x3 = wch i 3 ∧ x4 = wch i 4) ↔ ((((x0 - 96) * 32 + (x1 - 96)) * 32 + (x2 - 96)) * 32 + (x3 - 96)) * 32 + (x4 - 96) = Lw i)) → (e - s = wln i ∧ spI b s i (wln i) = true ↔ hvl b s (e - s) = Lw i) := by
    intro hn l1 l2 hx
    rw [hn]
    constructor
    · rintro ⟨h1, h2⟩
      have h0 := hl 0 (by omega) (by omega); have h1' := hl 1 (by omega) (by omega); have h2' := hl 2 (by omega) (by omega); have h3' := hl 3 (by omega) (by omega); have h4' := hl 4 (by omega) (by omega)
      rw [h1, hvl_5]
      exact (hx _ _ _ _ _ h0.1 h0.2 h1'.1 h1'.2 h2'.1 h2'.2 h3'.1 h3'.2 h4'.1 h4'.2).mp (spI_5.mp h2)
    · intro h
      have h5 : e - s = 5 := hlen.2 (by omega) (by omega)
      have h0 := hl 0 (by omega) (by omega); have h1' := hl 1 (by omega) (by omega); have h2' := hl 2 (by omega) (by omega); have h3' := hl 3 (by omega) (by omega); have h4' := hl 4 (by omega) (by omega)
      rw [h5, hvl_5] at h
      exact ⟨h5, spI_5.mpr ((hx _ _ _ _ _ h0.1 h0.2 h1'.1 h1'.2 h2'.1 h2'.2 h3'.1 h3'.2 h4'.1 h4'.2).mpr h)⟩
  obtain ⟨w0, w1, w2, w3, w4, w5⟩ := hw
  rcases (show i = 0 ∨ i = 1 ∨ i = 2 ∨ i = 3 ∨ i = 4 ∨ i = 5 by omega) with e | e | e | e | e | e <;> subst e
  · exact key5 rfl (by decide) (by decide) (fun x0 x1 x2 x3 x4 => by rw [show Lw 0 = 13816389 from rfl]; omega)
  · exact key5 rfl (by decide) (by decide) (fun x0 x1 x2 x3 x4 => by rw [show Lw 1 = 20459828 from rfl]; omega)
  · exact key4 rfl (by decide) (by decide) (fun x0 x1 x2 x3 => by rw [show Lw 2 = 374949 from rfl]; omega)
  · exact key4 rfl (by decide) (by decide) (fun x0 x1 x2 x3 => by rw [show Lw 3 = 763013 from rfl]; omega)
  · exact key4 rfl (by decide) (by decide) (fun x0 x1 x2 x3 => by rw [show Lw 4 = 474757 from rfl]; omega)
  · exact key4 rfl (by decide) (by decide) (fun x0 x1 x2 x3 => by rw [show Lw 5 = 595572 from rfl]; omega)
end hash
