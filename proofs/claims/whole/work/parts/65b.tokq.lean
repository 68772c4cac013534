theorem kdo_m {v : Int} (h : kdo v = -1) : ¬ (v = 4 ∨ v = 8 ∨ v = 16 ∨ v = 32) := by
  intro q
  rcases q with e | e | e | e <;> subst e <;> exact absurd h (by decide)
theorem kdo_p {v : Int} (h : ¬ kdo v = -1) : (v = 4 ∨ v = 8 ∨ v = 16 ∨ v = 32) ∧ kdo v = bok v := by
  by_cases q : v = 4 ∨ v = 8 ∨ v = 16 ∨ v = 32
  · exact ⟨q, kdo_k q⟩
  · exact absurd (kdo_n q) h
theorem RPS_wd {σ μ μ1 : Mu} {k v : Int} (h : RPS σ μ) (h0 : σ 0 0 = 0) (hk : 0 ≤ k ∧ k < 4) (hv : 4 ≤ v ∧ v ≤ 40) (e : ∀ o : Int, 63 ≤ o ∧ o ≤ 63 → μ1 o = μ o) (e5 : ∀ o : Int, 65 ≤ o ∧ o ≤ 67 → μ1 o = μ o) (f : ∀ j : Int, (44 ≤ j ∧ j ≤ 57) → μ1 45 j = μ 45 j) (e4 : ∀ j : Int, μ1 64 j = if j = k then v else μ 64 j) (e8 : ∀ j : Int, μ1 68 j = if j = k then 1 else μ 68 j) : RPS (wdS σ k v) μ1 := by
  have g : ∀ o : Int, ¬ o = 7 → ¬ o = 8 → wdS σ k v o = σ o := fun o a b => by unfold wdS; rw [am_up_o a, am_up_o b]
  have g7 : ∀ j : Int, wdS σ k v 7 j = if j = k then v else σ 7 j := fun j => by unfold wdS; rw [up_if, am_up_o (by omega)]
  have g8 : ∀ j : Int, wdS σ k v 8 j = if j = k then 1 else σ 8 j := fun j => by unfold wdS; rw [am_up_o (by omega), up_if]
  have hs := h.ok
  have ht : tS (wdS σ k v) = tS σ := by unfold tS; rw [g 0 (by omega) (by omega), if_pos h0, if_pos h0]
  have ho : SOK (wdS σ k v) := by
    unfold SOK at hs ⊢
    rw [g 0 (by omega) (by omega), g 1 (by omega) (by omega), g 2 (by omega) (by omega), g 3 (by omega) (by omega), g 4 (by omega) (by omega), g 5 (by omega) (by omega), g 6 (by omega) (by omega)]
    refine ⟨hs.1, hs.2.1, fun j a c => ?_, hs.2.2.2.1, hs.2.2.2.2.1, fun j a c => by omega⟩
    have h9 := hs.2.2.1 j a c
    rw [g7, g8]
    by_cases ej : j = k
    · rw [if_pos ej, if_pos ej]; exact ⟨hv, Or.inr rfl⟩
    · rw [if_neg ej, if_neg ej]; exact h9
  refine ⟨ho, ?_, ?_, fun j a c => ?_, ?_⟩
  · rw [ht, g 0 (by omega) (by omega), f 44 (by omega), f 45 (by omega), f 47 (by omega), f 48 (by omega), f 50 (by omega), f 54 (by omega), f 55 (by omega), f 57 (by omega)]
    exact h.2.1
  · rw [g 0 (by omega) (by omega), g 6 (by omega) (by omega), e 63 (by omega)]
    exact h.2.2.1
  · have h9 := h.2.2.2.1 j a c
    rw [g7, g8, e4, e8, h9.1, h9.2]
    exact ⟨rfl, rfl⟩
  · rw [g 0 (by omega) (by omega), g 1 (by omega) (by omega), g 2 (by omega) (by omega), g 3 (by omega) (by omega), e5 65 (by omega), e5 66 (by omega), e5 67 (by omega)]
    exact h.2.2.2.2
theorem RPS_add {σ μ μ1 : Mu} {so kd hd : Int} (h : RPS σ μ) (h64 : σ 0 0 < 64) (hk : kd = 4 ∨ kd = 8 ∨ kd = 16 ∨ kd = 32) (hs : so = 0 ∨ so = 1) (hh : -12 ≤ hd ∧ hd ≤ 12) (e3 : ∀ o : Int, 63 ≤ o ∧ o ≤ 64 → μ1 o = μ o) (e8 : ∀ o : Int, 68 ≤ o ∧ o ≤ 68 → μ1 o = μ o) (f : ∀ j : Int, (44 ≤ j ∧ j ≤ 57 ∧ ¬ j = 50 ∧ ¬ j = 57) → μ1 45 j = μ 45 j) (e50 : μ1 45 50 = σ 0 0 + 1) (e57 : μ1 45 57 = tS σ + lok kd) (e5 : ∀ j : Int, μ1 65 j = if j = σ 0 0 then bok kd else μ 65 j) (e6 : ∀ j : Int, μ1 66 j = if j = σ 0 0 then so else μ 66 j) (e7 : ∀ j : Int, μ1 67 j = if j = σ 0 0 then hd else μ 67 j) : RPS (addS σ so kd hd) μ1 := by
  obtain ⟨g, g0, gk, g1, g2, g3, g4, g5⟩ := addS_f (σ := σ) (so := so) (kd := kd) (hd := hd)
  have h00 := h.ok.1.1
  have ht : tS (addS σ so kd hd) = tS σ + lok kd := by
    have e9 : tS (addS σ so kd hd) = if addS σ so kd hd 0 0 = 0 then 0 else addS σ so kd hd 4 (addS σ so kd hd 0 0 - 1) + lok (addS σ so kd hd 1 (addS σ so kd hd 0 0 - 1)) := rfl
    rw [e9, g0, if_neg (by omega), show σ 0 0 + 1 - 1 = σ 0 0 by omega, g4, g1, if_pos rfl, if_pos rfl]
  refine ⟨SOK_add h.ok h64 hk hs hh, ?_, ?_, fun j a c => ?_, fun j a c => ?_⟩
  · rw [ht, g0, gk 2 (by omega), gk 3 (by omega), gk 4 (by omega), gk 5 (by omega), gk 6 (by omega), gk 7 (by omega), f 44 (by omega), f 45 (by omega), f 47 (by omega), f 48 (by omega), f 54 (by omega), f 55 (by omega)]
    exact ⟨h.bt, h.un, h.pm, h.kn, e50, h.hm, h.hk, e57⟩
  · rw [gk 5 (by omega), g 6 (by omega), e3 63 (by omega)]
    exact h.2.2.1
  · rw [g 7 (by omega), g 8 (by omega), e3 64 (by omega), e8 68 (by omega)]
    exact h.2.2.2.1 j a c
  · rw [g0] at c
    rw [g1, g2, g3, e5, e6, e7]
    by_cases e : j = σ 0 0
    · rw [if_pos e, if_pos e, if_pos e, if_pos e, if_pos e, if_pos e]; exact ⟨rfl, rfl, rfl⟩
    · rw [if_neg e, if_neg e, if_neg e, if_neg e, if_neg e, if_neg e]; exact h.2.2.2.2 j a (by omega)
