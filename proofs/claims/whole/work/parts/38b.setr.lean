/-! ===== The settings in the order of the reference's rows ===== -/
def sq (D : GDt) (j : Int) : SLt := ((setsD D)[j.toNat]?).getD (0, 0)
def cN (D : GDt) (m : Int) : Int := ((setsN D m.toNat).length : Int)
theorem setsN_pre (D : GDt) (m k : Nat) : ∃ t, setsN D (m + k) = setsN D m ++ t := by
  induction k with
  | zero => exact ⟨[], by simp⟩
  | succ k ih =>
    obtain ⟨t, ht⟩ := ih
    exact ⟨t ++ (if isSet D (slOf (m + k)) = true then [slOf (m + k)] else []), by rw [← Nat.add_assoc, setsN_s, ht, List.append_assoc]⟩
theorem sq_at {D : GDt} {m : Nat} (hm : m < 14641) (h : isSet D (slOf m) = true) : sq D (((setsN D m).length : Nat) : Int) = slOf m := by
  obtain ⟨t, ht⟩ := setsN_pre D (m + 1) (14641 - (m + 1))
  rw [show m + 1 + (14641 - (m + 1)) = 14641 by omega, setsN_s D m, if_pos h] at ht
  unfold sq setsD
  rw [ht]
  simp
theorem slOf_lr {l r : Int} (hl : -60 ≤ l ∧ l ≤ 60) (hr : -60 ≤ r ∧ r ≤ 60) : slOf (121 * (l + 60) + (r + 60)).toNat = (l, r) := by
  unfold slOf
  rw [Prod.mk.injEq]
  omega
theorem isSet_lr {D : GDt} {l r : Int} : isSet D (l, r) = true ↔ ((-8 ≤ r - l ∧ r - l ≤ 8) ∧ alwB D (r - l) l = true) := by
  unfold isSet
  rw [Bool.and_eq_true, decide_eq_true_iff]
theorem cN_y {D : GDt} {l r : Int} (hl : -60 ≤ l ∧ l ≤ 60) (hr : -60 ≤ r ∧ r ≤ 60) (h1 : -8 ≤ r - l ∧ r - l ≤ 8) (h2 : alwB D (r - l) l = true) : cN D (121 * (l + 60) + (r + 1 + 60)) = cN D (121 * (l + 60) + (r + 60)) + 1 := by
  unfold cN
  rw [show (121 * (l + 60) + (r + 1 + 60)).toNat = (121 * (l + 60) + (r + 60)).toNat + 1 by omega, setsN_s, slOf_lr hl hr, if_pos (isSet_lr.mpr ⟨h1, h2⟩)]
  simp
theorem cN_n {D : GDt} {l r : Int} (hl : -60 ≤ l ∧ l ≤ 60) (hr : -60 ≤ r ∧ r ≤ 60) (h : ¬ ((-8 ≤ r - l ∧ r - l ≤ 8) ∧ alwB D (r - l) l = true)) : cN D (121 * (l + 60) + (r + 1 + 60)) = cN D (121 * (l + 60) + (r + 60)) := by
  unfold cN
  rw [show (121 * (l + 60) + (r + 1 + 60)).toNat = (121 * (l + 60) + (r + 60)).toNat + 1 by omega, setsN_s, slOf_lr hl hr, if_neg (fun q => h (isSet_lr.mp q))]
  simp
theorem sq_lr {D : GDt} {l r : Int} (hl : -60 ≤ l ∧ l ≤ 60) (hr : -60 ≤ r ∧ r ≤ 60) (h1 : -8 ≤ r - l ∧ r - l ≤ 8) (h2 : alwB D (r - l) l = true) : sq D (cN D (121 * (l + 60) + (r + 60))) = (l, r) := by
  unfold cN
  rw [sq_at (by omega) (by rw [slOf_lr hl hr]; exact isSet_lr.mpr ⟨h1, h2⟩), slOf_lr hl hr]
def squ (D : GDt) (j : Int) : Int := ugl D ((sq D j).2 - (sq D j).1) (sq D j).1
def sqn (D : GDt) (j : Int) : Int := lns D ((sq D j).2 - (sq D j).1) (sq D j).1
def nS (D : GDt) : Int := cN D 14641
/-- the rows of the settings -/
def RS (D : GDt) (f : Int) (μ : Mu) : Prop := RO D f μ ∧ (μ 45 29 = nS D ∧ nS D ≤ 2057) ∧ (∀ j : Int, 0 ≤ j → j < nS D → μ 58 j = (sq D j).1) ∧ (∀ j : Int, 0 ≤ j → j < nS D → μ 59 j = (sq D j).2) ∧ (∀ j : Int, 0 ≤ j → j < nS D → μ 60 j = squ D j) ∧ (∀ j : Int, 0 ≤ j → j < nS D → μ 61 j = sqn D j)
theorem RS.cg2 {D : GDt} {f : Int} {μ μ1 : Mu} (h : RS D f μ) (e : ∀ o : Int, (48 ≤ o ∧ o ≤ 48) ∨ (52 ≤ o ∧ o ≤ 52) ∨ (56 ≤ o ∧ o ≤ 61) → μ1 o = μ o) (e2 : ∀ k : Int, (21 ≤ k ∧ k ≤ 24) ∨ k = 29 → μ1 45 k = μ 45 k) : RS D f μ1 := by
  refine ⟨h.1.cg2 (fun o h1 => e o (by omega)) (fun k h1 => e2 k (by omega)), ?_⟩
  rw [e 58 (by omega), e 59 (by omega), e 60 (by omega), e 61 (by omega), e2 29 (by omega)]
  exact h.2
theorem RSn_n {μ : Mu} {o c c' : Int} {F : Int → Int} (hc : c' = c) (h : ∀ j : Int, 0 ≤ j → j < c → μ o j = F j) : ∀ j : Int, 0 ≤ j → j < c' → μ o j = F j := by rw [hc]; exact h
theorem RSn_y {μ : Mu} {o c c' v : Int} {F : Int → Int} (hc : c' = c + 1) (h : ∀ j : Int, 0 ≤ j → j < c → μ o j = F j) (hv : v = F c) : ∀ j : Int, 0 ≤ j → j < c' → am_up μ o c v o j = F j := by rw [hc]; exact fillr h hv
