def kdo (v : Int) : Int := if v = 4 then 0 else if v = 8 then 1 else if v = 16 then 2 else if v = 32 then 3 else -1
theorem kdo_r (v : Int) : -1 ≤ kdo v ∧ kdo v ≤ 3 := by unfold kdo; (repeat' split) <;> omega
theorem kdo_k {v : Int} (h : v = 4 ∨ v = 8 ∨ v = 16 ∨ v = 32) : kdo v = bok v := by rcases h with e | e | e | e <;> subst e <;> rfl
theorem kdo_n {v : Int} (h : ¬ (v = 4 ∨ v = 8 ∨ v = 16 ∨ v = 32)) : kdo v = -1 := by unfold kdo; (repeat' split) <;> omega
theorem am_b_i {P Q : Prop} [Decidable P] [Decidable Q] (h : P ↔ Q) : am_b P = am_b Q := by
  unfold am_b
  by_cases hq : Q
  · rw [if_pos hq, if_pos (h.mpr hq)]
  · rw [if_neg hq, if_neg (fun z => hq (h.mp z))]
