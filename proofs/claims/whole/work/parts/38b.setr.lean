/-! ===== The settings in the order of the reference's rows ===== -/
def sq (D : GDt) (j : Int) : SLt := ((setsD D)[j.toNat]?).getD (0, 0)
def cN (D : GDt) (m : Int) : Int := ((setsN D m.toNat).length : Int)
theorem setsN_pre (D : GDt) (m k : Nat) : ∃ t, setsN D (m + k) = setsN D m ++ t := by
  induction k with
  | zero => exact ⟨[], by simp⟩
  | succ k ih =>
    obtain ⟨t, ht⟩ := ih
    exact ⟨t ++ (if isSet D (slOf (m + k)) = true then [slOf (m + k)] else []), by rw [← Nat.add_assoc, setsN_s, ht, List.append_assoc]⟩
theorem sq_at {D : GDt} {m : Nat} (hm : m < 14641) (h : isSet D (slOf m) = true) : sq D (((setsN D m).length : Nat) : Int) = slOf m := by
  obtain ⟨t, ht⟩ := setsN_pre D (m + 1) (14641 - (m + 1))
  rw [show m + 1 + (14641 - (m + 1)) = 14641 by omega, setsN_s D m, if_pos h] at ht
  unfold sq setsD
  rw [ht]
  simp
theorem slOf_lr {l r : Int} (hl : -60 ≤ l ∧ l ≤ 60) (hr : -60 ≤ r ∧ r ≤ 60) : slOf (121 * (l + 60) + (r + 60)).toNat = (l, r) := by
  unfold slOf
  rw [Prod.mk.injEq]
  omega
theorem isSet_lr {D : GDt} {l r : Int} : isSet D (l, r) = true ↔ ((-8 ≤ r - l ∧ r - l ≤ 8) ∧ alwB D (r - l) l = true) := by
  unfold isSet
  rw [Bool.and_eq_true, decide_eq_true_iff]
theorem cN_y {D : GDt} {l r : Int} (hl : -60 ≤ l ∧ l ≤ 60) (hr : -60 ≤ r ∧ r ≤ 60) (h1 : -8 ≤ r - l ∧ r - l ≤ 8) (h2 : alwB D (r - l) l = true) : cN D (121 * (l + 60) + (r + 1 + 60)) = cN D (121 * (l + 60) + (r + 60)) + 1 := by
  unfold cN
  rw [show (121 * (l + 60) + (r + 1 + 60)).toNat = (121 * (l + 60) + (r + 60)).toNat + 1 by omega, setsN_s, slOf_lr hl hr, if_pos (isSet_lr.mpr ⟨h1, h2⟩)]
  simp
theorem cN_n {D : GDt} {l r : Int} (hl : -60 ≤ l ∧ l ≤ 60) (hr : -60 ≤ r ∧ r ≤ 60) (h : ¬ ((-8 ≤ r - l ∧ r - l ≤ 8) ∧ alwB D (r - l) l = true)) : cN D (121 * (l + 60) + (r + 1 + 60)) = cN D (121 * (l + 60) + (r + 60)) := by
  unfold cN
  rw [show (121 * (l + 60) + (r + 1 + 60)).toNat = (121 * (l + 60) + (r + 60)).toNat + 1 by omega, setsN_s, slOf_lr hl hr, if_neg (fun q => h (isSet_lr.mp q))]
  simp
theorem sq_lr {D : GDt} {l r : Int} (hl : -60 ≤ l ∧ l ≤ 60) (hr : -60 ≤ r ∧ r ≤ 60) (h1 : -8 ≤ r - l ∧ r - l ≤ 8) (h2 : alwB D (r - l) l = true) : sq D (cN D (121 * (l + 60) + (r + 60))) = (l, r) := by
  unfold cN
  rw [sq_at (by omega) (by rw [slOf_lr hl hr]; exact isSet_lr.mpr ⟨h1, h2⟩), slOf_lr hl hr]
def squ (D : GDt) (j : Int) : Int := ugl D ((sq D j).2 - (sq D j).1) (sq D j).1
def sqn (D : GDt) (j : Int) : Int := lns D ((sq D j).2 - (sq D j).1) (sq D j).1
def nS (D : GDt) : Int := cN D 14641
/-- the rows of the settings -/
def RS (D : GDt) (f : Int) (μ : Mu) : Prop := RO D f μ ∧ (μ 45 29 = nS D ∧ nS D ≤ 2057) ∧ (∀ j : Int, 0 ≤ j → j < nS D → μ 58 j = (sq D j).1) ∧ (∀ j : Int, 0 ≤ j → j < nS D → μ 59 j = (sq D j).2) ∧ (∀ j : Int, 0 ≤ j → j < nS D → μ 60 j = squ D j) ∧ (∀ j : Int, 0 ≤ j → j < nS D → μ 61 j = sqn D j)
theorem RS.cg2 {D : GDt} {f : Int} {μ μ1 : Mu} (h : RS D f μ) (e : ∀ o : Int, (48 ≤ o ∧ o ≤ 48) ∨ (52 ≤ o ∧ o ≤ 52) ∨ (56 ≤ o ∧ o ≤ 61) → μ1 o = μ o) (e2 : ∀ k : Int, (21 ≤ k ∧ k ≤ 24) ∨ k = 29 → μ1 45 k = μ 45 k) : RS D f μ1 := by
  refine ⟨h.1.cg2 (fun o h1 => e o (by omega)) (fun k h1 => e2 k (by omega)), ?_⟩
  rw [e 58 (by omega), e 59 (by omega), e 60 (by omega), e 61 (by omega), e2 29 (by omega)]
  exact h.2
theorem RSn_n {μ : Mu} {o c c' : Int} {F : Int → Int} (hc : c' = c) (h : ∀ j : Int, 0 ≤ j → j < c → μ o j = F j) : ∀ j : Int, 0 ≤ j → j < c' → μ o j = F j := by rw [hc]; exact h
theorem RSn_y {μ : Mu} {o c c' v : Int} {F : Int → Int} (hc : c' = c + 1) (h : ∀ j : Int, 0 ≤ j → j < c → μ o j = F j) (hv : v = F c) : ∀ j : Int, 0 ≤ j → j < c' → am_up μ o c v o j = F j := by rw [hc]; exact fillr h hv
theorem nS_0 (D : GDt) : 0 ≤ nS D := Int.ofNat_nonneg _
theorem sq_mem {D : GDt} {j : Int} (h : 0 ≤ j ∧ j < nS D) : sq D j ∈ setsD D := by
  have h1 : nS D = ((setsD D).length : Int) := rfl
  have h2 : j.toNat < (setsD D).length := by omega
  unfold sq
  rw [List.getElem?_eq_getElem h2]
  exact List.getElem_mem h2
theorem sq_in {D : GDt} {j : Int} (hn : GOK D) (h : 0 ≤ j ∧ j < nS D) : inS ((sq D j).2 - (sq D j).1) (sq D j).1 ∧ alw D ((sq D j).2 - (sq D j).1) (sq D j).1 := (setsD_mem (by have := hn.n; omega) _).mp (sq_mem h)
theorem sq_r {D : GDt} {j : Int} (hn : GOK D) (h : 0 ≤ j ∧ j < nS D) : (-60 ≤ (sq D j).1 ∧ (sq D j).1 ≤ 60) ∧ (-60 ≤ (sq D j).2 ∧ (sq D j).2 ≤ 60) ∧ (-8 ≤ (sq D j).2 - (sq D j).1 ∧ (sq D j).2 - (sq D j).1 ≤ 8) := by
  have h1 := (sq_in hn h).1
  unfold inS inL at h1
  omega
theorem squ_r {D : GDt} {j : Int} (hn : GOK D) (h : 0 ≤ j ∧ j < nS D) : 0 ≤ squ D j ∧ squ D j ≤ 41600300 := ugl_fr D (sq D j).1 (sq D j).2 hn (sq_r hn h)
theorem sqn_r {D : GDt} {j : Int} (hn : GOK D) (h : 0 ≤ j ∧ j < nS D) : 0 ≤ sqn D j ∧ sqn D j ≤ 7096320 := lns_r hn (sq_in hn h).2
/-- one setting is better than another, as the reference asks it -/
theorem key_lex {D : GDt} {i j : Int} (hn : GOK D) (hi : 0 ≤ i ∧ i < nS D) (hj : 0 ≤ j ∧ j < nS D) :
    keyq D (sq D i) < keyq D (sq D j) ↔ (if ¬ squ D i = squ D j then squ D i < squ D j else if ¬ ab ((sq D i).2 - (sq D i).1) = ab ((sq D j).2 - (sq D j).1) then ab ((sq D i).2 - (sq D i).1) < ab ((sq D j).2 - (sq D j).1) else if ¬ sqn D i = sqn D j then sqn D i < sqn D j else if ¬ (sq D i).1 = (sq D j).1 then way D 0 * (sq D i).1 < way D 0 * (sq D j).1 else way D 0 * (sq D i).2 < way D 0 * (sq D j).2) := by
  have a1 := sq_r hn hi
  have a2 := sq_r hn hj
  have b1 := sqn_r hn hi
  have b2 := sqn_r hn hj
  have e1 : keyq D (sq D i) = (((squ D i * 16 + ab ((sq D i).2 - (sq D i).1)) * 16777216 + sqn D i) * 128 + 60 + way D 0 * (sq D i).1) * 128 + 60 + way D 0 * (sq D i).2 := by
    unfold keyq key squ sqn lns
    rw [show (sq D i).1 + ((sq D i).2 - (sq D i).1) = (sq D i).2 by omega]
    omega
  have e2 : keyq D (sq D j) = (((squ D j * 16 + ab ((sq D j).2 - (sq D j).1)) * 16777216 + sqn D j) * 128 + 60 + way D 0 * (sq D j).1) * 128 + 60 + way D 0 * (sq D j).2 := by
    unfold keyq key squ sqn lns
    rw [show (sq D j).1 + ((sq D j).2 - (sq D j).1) = (sq D j).2 by omega]
    omega
  have c1 : 0 ≤ ab ((sq D i).2 - (sq D i).1) ∧ ab ((sq D i).2 - (sq D i).1) ≤ 8 := by unfold ab; omega
  have c2 : 0 ≤ ab ((sq D j).2 - (sq D j).1) ∧ ab ((sq D j).2 - (sq D j).1) ≤ 8 := by unfold ab; omega
  rw [e1, e2]
  generalize squ D i = U1 at *
  generalize squ D j = U2 at *
  generalize ab ((sq D i).2 - (sq D i).1) = S1 at *
  generalize ab ((sq D j).2 - (sq D j).1) = S2 at *
  generalize sqn D i = L1 at *
  generalize sqn D j = L2 at *
  generalize (sq D i).1 = l1 at *
  generalize (sq D j).1 = l2 at *
  generalize (sq D i).2 = r1 at *
  generalize (sq D j).2 = r2 at *
  have q := way_r D 0
  generalize way D 0 = w at *
  clear e1 e2
  by_cases hU : U1 = U2
  · by_cases hS : S1 = S2
    · by_cases hL : L1 = L2
      · by_cases hl : l1 = l2
        · simp only [hU, hS, hL, hl, not_true_eq_false, if_false]
          rcases q with q | q <;> subst q <;> omega
        · simp only [hU, hS, hL, hl, not_true_eq_false, not_false_eq_true, if_false, if_true]
          rcases q with q | q <;> subst q <;> omega
      · simp only [hU, hS, hL, not_true_eq_false, not_false_eq_true, if_false, if_true]
        rcases q with q | q <;> subst q <;> omega
    · simp only [hU, hS, not_true_eq_false, not_false_eq_true, if_false, if_true]
      rcases q with q | q <;> subst q <;> omega
  · simp only [hU, not_false_eq_true, if_true]
    rcases q with q | q <;> subst q <;> omega
section RSs
variable {D : GDt} {f : Int} {μ : Mu}
theorem RS.ok (h : RS D f μ) : GOK D := h.1.ok
theorem RS.r (h : RS D f μ) : 0 ≤ f ∧ f + dN D ≤ 64 := h.1.r
theorem RS.c (h : RS D f μ) : 0 ≤ nS D ∧ nS D ≤ 2057 := ⟨nS_0 D, h.2.1.2⟩
end RSs
/-- the reference's place of the best setting, of the first i -/
def bstI (D : GDt) (i : Int) : Int := itr (fun j b => if b = -1 ∨ keyq D (sq D j) < keyq D (sq D b) then j else b) (-1) i
theorem bstI_s {D : GDt} {i : Int} (h : 0 ≤ i) : bstI D (i + 1) = if bstI D i = -1 ∨ keyq D (sq D i) < keyq D (sq D (bstI D i)) then i else bstI D i := itr_succ h
theorem bstI_r (D : GDt) (i : Int) (h : 0 ≤ i) : -1 ≤ bstI D i ∧ (bstI D i < i ∨ (i = 0 ∧ bstI D i = -1)) := by
  refine itr_ind (fun i b => -1 ≤ b ∧ (b < i ∨ (i = 0 ∧ b = -1))) ⟨by omega, Or.inr ⟨rfl, rfl⟩⟩ ?_ i h
  intro j x h1 h2
  split <;> omega
def rkI (D : GDt) (k i : Int) : Int := itr (fun j c => c + if ¬ j = k ∧ keyq D (sq D j) < keyq D (sq D k) then 1 else 0) 0 i
theorem rkI_s {D : GDt} {k i : Int} (h : 0 ≤ i) : rkI D k (i + 1) = rkI D k i + if ¬ i = k ∧ keyq D (sq D i) < keyq D (sq D k) then 1 else 0 := itr_succ h
theorem rkI_r (D : GDt) (k i : Int) (h : 0 ≤ i) : 0 ≤ rkI D k i ∧ rkI D k i ≤ i := by
  refine itr_ind (fun i b => 0 ≤ b ∧ b ≤ i) ⟨by omega, by omega⟩ ?_ i h
  intro j x h1 h2
  split <;> omega
/-- what the reference tells of the best setting -/
def ansR (D : GDt) (w : Int) : Int := if bstI D (nS D) = -1 then -1000000 else tlv D ((sq D (bstI D (nS D))).2 - (sq D (bstI D (nS D))).1) (sq D (bstI D (nS D))).1 w
theorem bstI_m {D : GDt} : ∀ i, 0 ≤ i → (∀ j, 0 ≤ j → j < i → keyq D (sq D (bstI D i)) ≤ keyq D (sq D j)) := by
  intro i h
  have h1 := itr_ind (g := fun j b => if b = -1 ∨ keyq D (sq D j) < keyq D (sq D b) then j else b) (a := -1) (fun i b => ((i = 0 ∧ b = -1) ∨ 0 ≤ b) ∧ ∀ j, 0 ≤ j → j < i → keyq D (sq D b) ≤ keyq D (sq D j)) ⟨Or.inl ⟨rfl, rfl⟩, fun j h1 h2 => by omega⟩ (by
    intro j x h1 h2
    obtain ⟨h3, h4⟩ := h2
    by_cases hc : x = -1 ∨ keyq D (sq D j) < keyq D (sq D x)
    · rw [if_pos hc]
      refine ⟨Or.inr h1, fun k h5 h6 => ?_⟩
      by_cases hk : k = j
      · subst hk; exact Int.le_refl _
      · have h7 := h4 k h5 (by omega)
        rcases hc with q | q
        · exfalso; omega
        · omega
    · rw [if_neg hc]
      refine ⟨Or.inr (by omega), fun k h5 h6 => ?_⟩
      by_cases hk : k = j
      · subst hk; omega
      · exact h4 k h5 (by omega)) i h
  exact h1.2
theorem sq_all {D : GDt} {q : SLt} (h : q ∈ setsD D) : ∃ j, (0 ≤ j ∧ j < nS D) ∧ sq D j = q := by
  obtain ⟨n, hn, he⟩ := List.getElem_of_mem h
  have h1 : nS D = ((setsD D).length : Int) := rfl
  refine ⟨(n : Int), by omega, ?_⟩
  unfold sq
  rw [show ((n : Int)).toNat = n by omega, List.getElem?_eq_getElem hn, he]
  rfl
theorem bst_key {D : GDt} (h : GOK D) : (bstI D (nS D) = -1 ∧ mnK D = 9223372036854775807) ∨ ((0 ≤ bstI D (nS D) ∧ bstI D (nS D) < nS D) ∧ mnK D = keyq D (sq D (bstI D (nS D)))) := by
  have hr := bstI_r D (nS D) (nS_0 D)
  have hn := h.n
  have hm := mnK_is h
  by_cases h0 : nS D = 0
  · left
    rw [h0]
    refine ⟨rfl, ?_⟩
    refine isMn_u hm (isMn_0 ?_)
    rintro x ⟨s, l, h1, h2, h3⟩
    have h4 : ((l, l + s) : SLt) ∈ setsD D := (setsD_mem (by omega) _).mpr (by show inS (l + s - l) l ∧ alw D (l + s - l) l; rw [show l + s - l = s by omega]; exact ⟨h1, h2⟩)
    obtain ⟨j, h5, h6⟩ := sq_all h4
    omega
  · right
    have hp : 0 ≤ bstI D (nS D) := by
      have h1 := nS_0 D
      rw [show nS D = (nS D - 1) + 1 by omega, bstI_s (by omega)]
      have h2 := bstI_r D (nS D - 1) (by omega)
      split <;> omega
    have hb : bstI D (nS D) < nS D := by omega
    refine ⟨⟨hp, hb⟩, ?_⟩
    have h1 := sq_in h ⟨hp, hb⟩
    have h2 := key_r h h1.2 h1.1
    refine isMn_u hm ⟨?_, ?_, ?_⟩
    · unfold keyq; omega
    · rintro x ⟨s, l, h3, h4, rfl⟩
      have h5 : ((l, l + s) : SLt) ∈ setsD D := (setsD_mem (by omega) _).mpr (by show inS (l + s - l) l ∧ alw D (l + s - l) l; rw [show l + s - l = s by omega]; exact ⟨h3, h4⟩)
      obtain ⟨j, h6, h7⟩ := sq_all h5
      have h8 := bstI_m (D := D) (nS D) (nS_0 D) j h6.1 h6.2
      rw [h7] at h8
      have h9 : keyq D (l, l + s) = key D s l := by show key D (l + s - l) l = _; rw [show l + s - l = s by omega]
      rw [h9] at h8
      exact h8
    · exact Or.inr ⟨_, _, h1.1, h1.2, rfl⟩
theorem ansR_eq {D : GDt} (h : GOK D) (w : Int) : ansR D w = ansB D w := by
  unfold ansR ansB
  rcases bst_key h with ⟨q1, q2⟩ | ⟨q1, q2⟩
  · rw [if_pos q1, if_pos q2]
  · have h1 := sq_in h q1
    have h2 := key_r h h1.2 h1.1
    have h3 : mnK D = key D ((sq D (bstI D (nS D))).2 - (sq D (bstI D (nS D))).1) (sq D (bstI D (nS D))).1 := q2
    have h4 := key_l h h1.2 h1.1
    have h5 := key_rr h h1.2 h1.1
    rw [← h3] at h4 h5 h2
    have e1 : bL D = (sq D (bstI D (nS D))).1 := h4
    have e2 : bR D = (sq D (bstI D (nS D))).2 := h5.trans (by omega)
    rw [if_neg (by omega), if_neg (by omega), e1, e2]
