theorem len_h (D : GDt) (s l a : Int) : way D a * (l * spn D + s * dX D a - 2 * dH D a * spn D) = len D s l a := by
  unfold len bas
  rcases way_r D a with q | q <;> rw [q] <;> simp only [Int.one_mul, Int.neg_mul] <;> omega
theorem len_f (D : GDt) (s l a : Int) (hs : inS s l) (ha : 0 ≤ a ∧ a < dN D) (hok : GOK D) : -261360 ≤ len D s l a ∧ len D s l a ≤ 261360 := len_r hok ha hs.2 (by have := hs.1.1; omega)
theorem gdN_r : ∀ (m : Nat) (x y : Int), 0 ≤ x → 0 ≤ y → 0 ≤ gdN m x y ∧ gdN m x y ≤ max x y := by
  intro m
  induction m with
  | zero => intro x y h1 h2; unfold gdN; omega
  | succ m ih =>
    intro x y h1 h2
    unfold gdN
    split
    · omega
    · have h3 := Int.emod_nonneg x (show y ≠ 0 by omega)
      have h4 := Int.emod_lt_of_pos x (show 0 < y by omega)
      have := ih y (x % y) h2 h3
      omega
theorem gdS_f (a b : Int) (ha : 0 ≤ a) (hb : 0 ≤ b) : 0 ≤ gdS 0 a b ∧ gdS 0 a b ≤ max a b := gdN_r _ a b ha hb
/-- what ranked() tells -/
def rnkP (D : GDt) (P : Prop) (k w z : Int) : Prop := ((P ∧ 0 ≤ k ∧ k < cnD D ∧ 0 ≤ w ∧ w ≤ 5) ∧ ∃ s l, inS s l ∧ alw D s l ∧ rkD D (key D s l) = k ∧ z = tlv D s l w) ∨ (¬ (P ∧ 0 ≤ k ∧ k < cnD D ∧ 0 ≤ w ∧ w ≤ 5) ∧ z = -1000000)
theorem rnkP_no {D : GDt} {P : Prop} {k w : Int} (h : ¬ (P ∧ 0 ≤ k ∧ 0 ≤ w ∧ w ≤ 5)) : rnkP D P k w (-1000000) := Or.inr ⟨fun q => h ⟨q.1, q.2.1, q.2.2.2⟩, rfl⟩
theorem rnkP_out {D : GDt} {P : Prop} {k w c : Int} (hc : c = cnD D) (h : c ≤ k) : rnkP D P k w (-1000000) := Or.inr ⟨fun q => by have := q.2.2.1; omega, rfl⟩
theorem rnkP_in {D : GDt} {P : Prop} {k w s l z : Int} (h : P ∧ 0 ≤ k ∧ k < cnD D ∧ 0 ≤ w ∧ w ≤ 5) (h1 : inS s l) (h2 : alw D s l) (h3 : rkD D (key D s l) = k) (hz : z = tlv D s l w) : rnkP D P k w z := Or.inl ⟨h, s, l, h1, h2, h3, hz⟩
theorem ifT {C : Prop} [Decidable C] {z a b : Int} (h : C) (e : z = a) : z = if C then a else b := by rw [if_pos h]; exact e
theorem ifF {C : Prop} [Decidable C] {z a b : Int} (h : ¬ C) (e : z = b) : z = if C then a else b := by rw [if_neg h]; exact e
theorem ifA {P Q : Prop} [Decidable P] [Decidable Q] {a b : Int} (h : P) : (if Q then a else b) = if P ∧ Q then a else b := by
  by_cases q : Q
  · rw [if_pos q, if_pos ⟨h, q⟩]
  · rw [if_neg q, if_neg (fun w => q w.2)]
