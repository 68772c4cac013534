/-! ===== The reference's rank is the document's ===== -/
theorem rkI_take {D : GDt} {k : Int} : ∀ n : Nat, n ≤ (setsD D).length → rkI D k (n : Int) = (((kl D).take n).countP (fun x => decide (x < keyq D (sq D k))) : Nat) := by
  intro n
  induction n with
  | zero => intro _; rfl
  | succ n ih =>
    intro h
    have h1 : (kl D)[n]? = some (keyq D (sq D (n : Int))) := by
      unfold kl sq
      rw [List.getElem?_map, show ((n : Int)).toNat = n by omega, List.getElem?_eq_getElem (by omega)]
      rfl
    rw [show ((n + 1 : Nat) : Int) = (n : Int) + 1 by omega, rkI_s (by omega), ih (by omega), List.take_succ, h1, List.countP_append]
    by_cases h2 : keyq D (sq D (n : Int)) < keyq D (sq D k)
    · have h3 : ¬ (n : Int) = k := by intro e; rw [e] at h2; omega
      rw [if_pos ⟨h3, h2⟩]
      simp [h2]
    · rw [if_neg (fun q => h2 q.2)]
      simp [h2]
theorem rkI_eq (D : GDt) (k : Int) : rkI D k (nS D) = rkD D (keyq D (sq D k)) := by
  have h1 : nS D = (((setsD D).length : Nat) : Int) := rfl
  rw [h1, rkI_take _ (Nat.le_refl _)]
  unfold rkD
  rw [List.take_of_length_le (by unfold kl; rw [List.length_map]; exact Nat.le_refl _)]
