/-! ===== The state that lines make, step by step ===== -/
def S0 : Mu := fun o k => if o = 0 then (if k = 2 then 4 else if k = 3 then 4 else if k = 4 then 9 else 0) else if o = 7 then (if k = 0 then 24 else if k = 1 then 16 else if k = 2 then 12 else 9) else 0
theorem SOK_0 : SOK S0 := by
  refine ⟨⟨by decide, by decide, by decide, Or.inr (Or.inl rfl), by decide, by decide, Or.inl rfl, Or.inl rfl⟩, fun j h1 h2 => ?_, fun k h1 h2 => ?_, fun k h1 h2 => ?_, fun h => ?_, fun j h1 h2 => ?_⟩
  · change j < 0 at h2; omega
  · refine ⟨?_, Or.inl rfl⟩
    show 4 ≤ (if k = 0 then 24 else if k = 1 then 16 else if k = 2 then 12 else 9) ∧ (if k = 0 then 24 else if k = 1 then 16 else if k = 2 then 12 else (9 : Int)) ≤ 40
    omega
  · change k < 0 at h2; omega
  · change (0 : Int) < 0 at h; omega
  · change j + 1 < 0 at h2; omega
theorem metS_f {σ : Mu} {v u : Int} : (∀ o : Int, ¬ o = 0 → metS σ v u o = σ o) ∧ metS σ v u 0 2 = v ∧ metS σ v u 0 3 = u ∧ metS σ v u 0 6 = 1 ∧ ∀ k : Int, ¬ k = 2 → ¬ k = 3 → ¬ k = 6 → metS σ v u 0 k = σ 0 k := by
  unfold metS
  refine ⟨fun o h => by rw [am_up_o h, am_up_o h, am_up_o h], ?_, ?_, am_up_at, fun k h1 h2 h3 => by rw [am_up_nk h3, am_up_nk h2, am_up_nk h1]⟩
  · rw [am_up_nk (by omega), am_up_nk (by omega), am_up_at]
  · rw [am_up_nk (by omega), am_up_at]
theorem SOK_met {σ : Mu} {v u : Int} (h : SOK σ) (hv : 1 ≤ v ∧ v ≤ 12) (hu : u = 2 ∨ u = 4 ∨ u = 8) : SOK (metS σ v u) := by
  obtain ⟨e, e2, e3, e6, ek⟩ := metS_f (σ := σ) (v := v) (u := u)
  unfold SOK at h ⊢
  rw [e2, e3, e6, ek 0 (by omega) (by omega) (by omega), ek 1 (by omega) (by omega) (by omega), ek 4 (by omega) (by omega) (by omega), ek 5 (by omega) (by omega) (by omega), ek 7 (by omega) (by omega) (by omega), e 1 (by omega), e 2 (by omega), e 3 (by omega), e 4 (by omega), e 5 (by omega), e 6 (by omega), e 7 (by omega), e 8 (by omega)]
  exact ⟨⟨h.1.1, h.1.2.1, hv, hu, h.1.2.2.2.2.1, h.1.2.2.2.2.2.1, Or.inr rfl, h.1.2.2.2.2.2.2.2⟩, h.2⟩
theorem CPS_met {σ : Mu} {q v u : Int} {μ μ1 : Mu} (h : CPS σ q μ) (h5 : σ 0 5 = 0) (hv : 1 ≤ v ∧ v ≤ 12) (hu : u = 2 ∨ u = 4 ∨ u = 8) (e : ∀ o : Int, q + 2 ≤ o ∧ o ≤ q + 8 → μ1 o = μ o) (f : ∀ k : Int, (¬ k = 1 ∧ ¬ k = 2 ∧ ¬ k = 4) → μ1 q k = μ q k) (e1 : μ1 q 1 = v) (e2 : μ1 q 2 = u) (hp : μ1 q 4 * evn μ1 q = v ∧ ∀ k, 0 ≤ k → k < μ1 q 4 → μ1 (q + 1) k = evn μ1 q) : CPS (metS σ v u) q μ1 := by
  obtain ⟨g, g2, g3, g6, gk⟩ := metS_f (σ := σ) (v := v) (u := u)
  refine ⟨SOK_met h.ok hv hu, ?_, ?_, ?_, ?_⟩
  · rw [g2, g3, gk 0 (by omega) (by omega) (by omega), gk 1 (by omega) (by omega) (by omega), gk 4 (by omega) (by omega) (by omega), f 7 (by omega), f 0 (by omega), f 3 (by omega)]
    exact ⟨h.f7, h.f0, e1, e2, h.f3⟩
  · rw [gk 0 (by omega) (by omega) (by omega), g 1 (by omega), g 2 (by omega), g 3 (by omega), g 4 (by omega), g 5 (by omega), e (q + 3) (by omega), e (q + 4) (by omega), e (q + 5) (by omega), e (q + 6) (by omega), e (q + 7) (by omega), e (q + 8) (by omega)]
    exact h.2.2.1
  · rw [g 7 (by omega), e (q + 2) (by omega)]; exact h.2.2.2.1
  · rw [gk 5 (by omega) (by omega) (by omega), g 6 (by omega)]
    exact Or.inl ⟨h5, by rw [e1]; exact hp.1, hp.2⟩
theorem knS_f {σ : Mu} {v : Int} : (∀ o : Int, ¬ o = 0 → knS σ v o = σ o) ∧ knS σ v 0 4 = v ∧ knS σ v 0 7 = 1 ∧ ∀ k : Int, ¬ k = 4 → ¬ k = 7 → knS σ v 0 k = σ 0 k := by
  unfold knS
  refine ⟨fun o h => by rw [am_up_o h, am_up_o h], ?_, am_up_at, fun k h1 h2 => by rw [am_up_nk h2, am_up_nk h1]⟩
  rw [am_up_nk (by omega), am_up_at]
theorem CPS_kn {σ : Mu} {q v : Int} {μ μ1 : Mu} (h : CPS σ q μ) (hv : 4 ≤ v ∧ v ≤ 24) (e : ∀ o : Int, q + 1 ≤ o ∧ o ≤ q + 8 → μ1 o = μ o) (f : ∀ k : Int, ¬ k = 3 → μ1 q k = μ q k) (e3 : μ1 q 3 = v) : CPS (knS σ v) q μ1 := by
  obtain ⟨g, g4, g7, gk⟩ := knS_f (σ := σ) (v := v)
  have hs := h.ok
  refine ⟨?_, ?_, ?_, ?_, ?_⟩
  · unfold SOK at hs ⊢
    rw [g4, g7, gk 0 (by omega) (by omega), gk 1 (by omega) (by omega), gk 2 (by omega) (by omega), gk 3 (by omega) (by omega), gk 5 (by omega) (by omega), gk 6 (by omega) (by omega), g 1 (by omega), g 2 (by omega), g 3 (by omega), g 4 (by omega), g 5 (by omega), g 6 (by omega), g 7 (by omega), g 8 (by omega)]
    exact ⟨⟨hs.1.1, hs.1.2.1, hs.1.2.2.1, hs.1.2.2.2.1, hv, hs.1.2.2.2.2.2.1, hs.1.2.2.2.2.2.2.1, Or.inr rfl⟩, hs.2⟩
  · rw [g4, gk 0 (by omega) (by omega), gk 1 (by omega) (by omega), gk 2 (by omega) (by omega), gk 3 (by omega) (by omega), f 7 (by omega), f 0 (by omega), f 1 (by omega), f 2 (by omega)]
    exact ⟨h.f7, h.f0, h.f1, h.f2, e3⟩
  · rw [gk 0 (by omega) (by omega), g 1 (by omega), g 2 (by omega), g 3 (by omega), g 4 (by omega), g 5 (by omega), e (q + 3) (by omega), e (q + 4) (by omega), e (q + 5) (by omega), e (q + 6) (by omega), e (q + 7) (by omega), e (q + 8) (by omega)]
    exact h.2.2.1
  · rw [g 7 (by omega), e (q + 2) (by omega)]; exact h.2.2.2.1
  · have h9 := h.2.2.2.2
    unfold evn at h9 ⊢
    rw [gk 5 (by omega) (by omega), g 6 (by omega), f 4 (by omega), f 1 (by omega), f 2 (by omega), e (q + 1) (by omega)]
    exact h9
theorem CPS_wd {σ : Mu} {q k v : Int} {μ μ1 : Mu} (h : CPS σ q μ) (h0 : σ 0 0 = 0) (hk : 0 ≤ k ∧ k < 4) (hv : 4 ≤ v ∧ v ≤ 40) (e : ∀ o : Int, q ≤ o ∧ o ≤ q + 8 → ¬ o = q + 2 → μ1 o = μ o) (e2 : ∀ j : Int, μ1 (q + 2) j = if j = k then v else μ (q + 2) j) : CPS (wdS σ k v) q μ1 := by
  have g : ∀ o : Int, ¬ o = 7 → ¬ o = 8 → wdS σ k v o = σ o := fun o a b => by unfold wdS; rw [am_up_o a, am_up_o b]
  have g7 : ∀ j : Int, wdS σ k v 7 j = if j = k then v else σ 7 j := fun j => by unfold wdS; rw [up_if, am_up_o (by omega)]
  have g8 : ∀ j : Int, wdS σ k v 8 j = if j = k then 1 else σ 8 j := fun j => by unfold wdS; rw [am_up_o (by omega), up_if]
  have hs := h.ok
  refine ⟨?_, ?_, ?_, ?_, ?_⟩
  · unfold SOK at hs ⊢
    rw [g 0 (by omega) (by omega), g 1 (by omega) (by omega), g 2 (by omega) (by omega), g 3 (by omega) (by omega), g 4 (by omega) (by omega), g 5 (by omega) (by omega), g 6 (by omega) (by omega)]
    refine ⟨hs.1, hs.2.1, fun j a c => ?_, hs.2.2.2.1, hs.2.2.2.2.1, fun j a c => by omega⟩
    have h9 := hs.2.2.1 j a c
    rw [g7, g8]
    by_cases ej : j = k
    · rw [if_pos ej, if_pos ej]; exact ⟨hv, Or.inr rfl⟩
    · rw [if_neg ej, if_neg ej]; exact h9
  · rw [g 0 (by omega) (by omega), e q (by omega) (by omega)]; exact h.2.1
  · rw [g 0 (by omega) (by omega)]; intro j a c; omega
  · intro j a c
    rw [g7, e2, h.2.2.2.1 j a c]
  · have h9 := h.2.2.2.2
    unfold evn at h9 ⊢
    rw [g 0 (by omega) (by omega), g 6 (by omega) (by omega), e q (by omega) (by omega), e (q + 1) (by omega) (by omega)]
    exact h9
theorem addS_f {σ : Mu} {so kd hd : Int} : (∀ o : Int, 6 ≤ o → addS σ so kd hd o = σ o) ∧ (addS σ so kd hd 0 0 = σ 0 0 + 1) ∧ (∀ k : Int, ¬ k = 0 → addS σ so kd hd 0 k = σ 0 k) ∧ (∀ j, addS σ so kd hd 1 j = if j = σ 0 0 then kd else σ 1 j) ∧ (∀ j, addS σ so kd hd 2 j = if j = σ 0 0 then so else σ 2 j) ∧ (∀ j, addS σ so kd hd 3 j = if j = σ 0 0 then hd else σ 3 j) ∧ (∀ j, addS σ so kd hd 4 j = if j = σ 0 0 then tS σ else σ 4 j) ∧ (∀ j, addS σ so kd hd 5 j = if j = σ 0 0 then xS σ else σ 5 j) := by
  unfold addS
  refine ⟨fun o h => by rw [am_up_o (by omega), am_up_o (by omega), am_up_o (by omega), am_up_o (by omega), am_up_o (by omega), am_up_o (by omega)], am_up_at, fun k h => by rw [am_up_nk h, am_up_o (by omega), am_up_o (by omega), am_up_o (by omega), am_up_o (by omega), am_up_o (by omega)], fun j => ?_, fun j => ?_, fun j => ?_, fun j => ?_, fun j => ?_⟩
  · rw [am_up_o (by omega), am_up_o (by omega), am_up_o (by omega), am_up_o (by omega), am_up_o (by omega), up_if]
  · rw [am_up_o (by omega), am_up_o (by omega), am_up_o (by omega), am_up_o (by omega), up_if, am_up_o (by omega)]
  · rw [am_up_o (by omega), am_up_o (by omega), am_up_o (by omega), up_if, am_up_o (by omega), am_up_o (by omega)]
  · rw [am_up_o (by omega), am_up_o (by omega), up_if, am_up_o (by omega), am_up_o (by omega), am_up_o (by omega)]
  · rw [am_up_o (by omega), up_if, am_up_o (by omega), am_up_o (by omega), am_up_o (by omega), am_up_o (by omega)]
theorem SOK_add {σ : Mu} {so kd hd : Int} (h : SOK σ) (h64 : σ 0 0 < 64) (hk : kd = 4 ∨ kd = 8 ∨ kd = 16 ∨ kd = 32) (hs : so = 0 ∨ so = 1) (hh : -12 ≤ hd ∧ hd ≤ 12) : SOK (addS σ so kd hd) := by
  obtain ⟨g, g0, gk, g1, g2, g3, g4, g5⟩ := addS_f (σ := σ) (so := so) (kd := kd) (hd := hd)
  have htx := h.tx
  have h00 := h.1.1
  unfold SOK at h ⊢
  rw [g0, gk 1 (by omega), gk 2 (by omega), gk 3 (by omega), gk 4 (by omega), gk 5 (by omega), gk 6 (by omega), gk 7 (by omega), g 6 (by omega), g 7 (by omega), g 8 (by omega)]
  refine ⟨⟨by omega, h.1.2⟩, fun j a c => ?_, h.2.2.1, h.2.2.2.1, fun a => ?_, fun j a c => ?_⟩
  · rw [g1, g2, g3, g4, g5]
    by_cases e : j = σ 0 0
    · rw [if_pos e, if_pos e, if_pos e, if_pos e, if_pos e]
      refine ⟨hk, hs, hh, by omega, by omega⟩
    · rw [if_neg e, if_neg e, if_neg e, if_neg e, if_neg e]
      exact h.2.1 j a (by omega)
  · rw [g4, g5]
    by_cases e : 0 = σ 0 0
    · rw [if_pos e, if_pos e]
      unfold tS xS
      rw [if_pos e.symm, if_pos e.symm]
      exact ⟨rfl, rfl⟩
    · rw [if_neg e, if_neg e]
      exact h.2.2.2.2.1 (by omega)
  · rw [g4, g4, g5, g5, g1, if_neg (show ¬ j = σ 0 0 by omega), if_neg (show ¬ j = σ 0 0 by omega), if_neg (show ¬ j = σ 0 0 by omega)]
    by_cases e : j + 1 = σ 0 0
    · rw [if_pos e, if_pos e]
      unfold tS xS
      rw [if_neg (by omega), if_neg (by omega), show σ 0 0 - 1 = j by omega]
      exact ⟨rfl, rfl⟩
    · rw [if_neg e, if_neg e]
      exact h.2.2.2.2.2 j a (by omega)
theorem CPS_add {σ : Mu} {q so kd hd : Int} {μ μ1 : Mu} (h : CPS σ q μ) (h64 : σ 0 0 < 64) (hk : kd = 4 ∨ kd = 8 ∨ kd = 16 ∨ kd = 32) (hs : so = 0 ∨ so = 1) (hh : -12 ≤ hd ∧ hd ≤ 12) (e7 : μ1 q 7 = σ 0 0 + 1) (f : ∀ k : Int, ¬ k = 7 → μ1 q k = μ q k) (e1 : μ1 (q + 1) = μ (q + 1)) (e2 : μ1 (q + 2) = μ (q + 2))
    (r3 : ∀ j, μ1 (q + 3) j = if j = σ 0 0 then kd else μ (q + 3) j) (r4 : ∀ j, μ1 (q + 4) j = if j = σ 0 0 then so else μ (q + 4) j) (r5 : ∀ j, μ1 (q + 5) j = if j = σ 0 0 then hd else μ (q + 5) j) (r6 : ∀ j, μ1 (q + 6) j = if j = σ 0 0 then tS σ else μ (q + 6) j) (r7 : ∀ j, μ1 (q + 7) j = if j = σ 0 0 then xS σ else μ (q + 7) j) (r8 : ∀ j, μ1 (q + 8) j = if j = σ 0 0 then -1 else μ (q + 8) j) : CPS (addS σ so kd hd) q μ1 := by
  obtain ⟨g, g0, gk, g1, g2, g3, g4, g5⟩ := addS_f (σ := σ) (so := so) (kd := kd) (hd := hd)
  refine ⟨SOK_add h.ok h64 hk hs hh, ?_, ?_, ?_, ?_⟩
  · rw [g0, gk 1 (by omega), gk 2 (by omega), gk 3 (by omega), gk 4 (by omega), f 0 (by omega), f 1 (by omega), f 2 (by omega), f 3 (by omega)]
    exact ⟨e7, h.f0, h.f1, h.f2, h.f3⟩
  · intro j a c
    rw [g0] at c
    rw [g1, g2, g3, g4, g5, r3, r4, r5, r6, r7, r8]
    by_cases e : j = σ 0 0
    · simp only [if_pos e, and_self]
    · simp only [if_neg e]
      exact h.2.2.1 j a (by omega)
  · rw [g 7 (by omega), e2]; exact h.2.2.2.1
  · have h9 := h.2.2.2.2
    unfold evn at h9 ⊢
    rw [gk 5 (by omega), g 6 (by omega), f 4 (by omega), f 1 (by omega), f 2 (by omega), e1]
    exact h9
/-- the parts told so far -/
theorem spL_end {b : Int → Int} {n : Int} {m : Nat} {σ : Mu} {k tg a : Int} (h : ¬ (k = 0 ∨ (k ≤ 6 ∧ dgA b n a))) : spL b n m σ k tg a = (0, 0, k, tg, σ, a) := by
  cases m with
  | zero => rfl
  | succ m => rw [spL, if_neg h]
theorem spL_bad {b : Int → Int} {n : Int} {m : Nat} {σ : Mu} {k tg a : Int} (h : k = 0 ∨ (k ≤ 6 ∧ dgA b n a)) (h1 : ¬ (spW b n σ k tg a).1 = 0) : spL b n (m + 1) σ k tg a = ((spW b n σ k tg a).1, (spW b n σ k tg a).2.1, k, tg, σ, a) := by rw [spL, if_pos h, if_pos h1]
theorem spL_go {b : Int → Int} {n : Int} {m : Nat} {σ : Mu} {k tg a : Int} (h : k = 0 ∨ (k ≤ 6 ∧ dgA b n a)) (h1 : (spW b n σ k tg a).1 = 0) : spL b n (m + 1) σ k tg a = spL b n m (am_up σ 6 k (spW b n σ k tg a).2.2.1) (k + 1) (tg + (spW b n σ k tg a).2.2.1) (sk b n (spW b n σ k tg a).2.2.2) := by rw [spL, if_pos h, if_neg (fun q => q h1)]
theorem CPS_sp {σ σ1 : Mu} {q k : Int} {μ μ1 : Mu} (h : CPS σ q μ) (hk : 1 ≤ k ∧ k ≤ 6) (hσ : ∀ o : Int, ¬ o = 6 → σ1 o = σ o) (hp : ∀ j, 0 ≤ j → j < k → 1 ≤ σ1 6 j ∧ σ1 6 j ≤ 12) (e : ∀ o : Int, q + 2 ≤ o ∧ o ≤ q + 8 → μ1 o = μ o) (f : ∀ j : Int, ¬ j = 4 → μ1 q j = μ q j) (e4 : μ1 q 4 = k) (e1 : ∀ j, 0 ≤ j → j < k → μ1 (q + 1) j = σ1 6 j) : CPS (am_up σ1 0 5 k) q μ1 := by
  have g : ∀ o : Int, ¬ o = 0 → ¬ o = 6 → am_up σ1 0 5 k o = σ o := fun o a c => by rw [am_up_o a, hσ o c]
  have g0 : ∀ j : Int, ¬ j = 5 → am_up σ1 0 5 k 0 j = σ 0 j := fun j a => by rw [am_up_nk a, hσ 0 (by omega)]
  have g5 : am_up σ1 0 5 k 0 5 = k := am_up_at
  have g6 : am_up σ1 0 5 k 6 = σ1 6 := am_up_o (by omega)
  have hs := h.ok
  refine ⟨?_, ?_, ?_, ?_, ?_⟩
  · unfold SOK at hs ⊢
    rw [g5, g0 0 (by omega), g0 1 (by omega), g0 2 (by omega), g0 3 (by omega), g0 4 (by omega), g0 6 (by omega), g0 7 (by omega), g 1 (by omega) (by omega), g 2 (by omega) (by omega), g 3 (by omega) (by omega), g 4 (by omega) (by omega), g 5 (by omega) (by omega), g 7 (by omega) (by omega), g 8 (by omega) (by omega), g6]
    exact ⟨⟨hs.1.1, hs.1.2.1, hs.1.2.2.1, hs.1.2.2.2.1, hs.1.2.2.2.2.1, by omega, hs.1.2.2.2.2.2.2⟩, hs.2.1, hs.2.2.1, hp, hs.2.2.2.2⟩
  · rw [g0 0 (by omega), g0 1 (by omega), g0 2 (by omega), g0 3 (by omega), g0 4 (by omega), f 7 (by omega), f 0 (by omega), f 1 (by omega), f 2 (by omega), f 3 (by omega)]
    exact h.2.1
  · rw [g0 0 (by omega), g 1 (by omega) (by omega), g 2 (by omega) (by omega), g 3 (by omega) (by omega), g 4 (by omega) (by omega), g 5 (by omega) (by omega), e (q + 3) (by omega), e (q + 4) (by omega), e (q + 5) (by omega), e (q + 6) (by omega), e (q + 7) (by omega), e (q + 8) (by omega)]
    exact h.2.2.1
  · rw [g 7 (by omega) (by omega), e (q + 2) (by omega)]; exact h.2.2.2.1
  · rw [g5, g6]
    exact Or.inr ⟨hk.1, e4, e1⟩
