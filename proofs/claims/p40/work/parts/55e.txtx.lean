/-! ===== A line's body, word by word ===== -/
section bod
variable {b : Int → Int} {n a w j k v : Int} {σ : Mu}
theorem lBod_0 : lBod b n σ 0 a = lMet b n σ a := by unfold lBod; rw [if_pos rfl]
theorem lBod_1 : lBod b n σ 1 a = lSpl b n σ a := by unfold lBod; rw [if_neg (by omega), if_pos rfl]
theorem lBod_2 : lBod b n σ 2 a = lKne b n σ a := by unfold lBod; rw [if_neg (by omega), if_neg (by omega), if_pos rfl]
theorem lBod_3 : lBod b n σ 3 a = lWid b n σ a := by unfold lBod; rw [if_neg (by omega), if_neg (by omega), if_neg (by omega), if_pos rfl]
theorem lBod_e (h : 4 ≤ w) : lBod b n σ w a = lEle b n σ (if w = 4 then 1 else 0) a := by unfold lBod; rw [if_neg (by omega), if_neg (by omega), if_neg (by omega), if_neg (by omega)]
theorem tw_if (h : w = k) (hk : k ≤ 2) : (if w ≤ 2 ∧ j = w then (1 : Int) else v) = if j = k then 1 else v := by
  subst h
  by_cases e : j = w
  · rw [if_pos ⟨hk, e⟩, if_pos e]
  · rw [if_neg (fun q => e q.2), if_neg e]
theorem tw_if3 (h : 3 ≤ w) : (if w ≤ 2 ∧ j = w then (1 : Int) else v) = v := if_neg (fun q => by omega)
theorem TLD.told {μ : Mu} (h : TLD σ μ) (hw : w = 0 ∨ w = 1 ∨ w = 2) : μ 43 w = tldS σ w := by
  unfold TLD at h
  unfold tldS
  rcases hw with e | e | e <;> subst e
  · rw [if_pos rfl]; exact h.1
  · rw [if_neg (by omega), if_pos rfl]; exact h.2.1
  · rw [if_neg (by omega), if_neg (by omega)]; exact h.2.2.1
theorem tldS_r (h : SOK σ) (w : Int) : 0 ≤ tldS σ w ∧ tldS σ w ≤ 1 := by
  have h1 := h.1.2.2.2.2.2.2
  unfold tldS
  split
  · omega
  · split
    · split <;> omega
    · omega
theorem see_lt {z : Int} (h : see b n a = z) (hz : 0 ≤ z) : a < n := by
  unfold see at h
  by_cases e : a < n
  · exact e
  · rw [if_neg e] at h; omega
theorem rdL_one {r : Lres} {q z : Int} {μ : Mu} (h : rdL r q z μ) (hr : r.1 = 0) : z = 1 := h.elim (fun q => q.1) (fun q => absurd hr q.2.1)
end bod
theorem TLD_eleR {b : Int → Int} {n so a q z : Int} {σ μ μ1 : Mu} (_hr : rdL (lEle b n σ so a) q z μ1) (h : TLD σ μ) (e : μ1 43 = μ 43) (e2 : μ1 44 = μ 44) : (lEle b n σ so a).1 = 0 → TLD (lEle b n σ so a).2.2.1 μ1 := fun hl => TLD_ele h hl e e2
