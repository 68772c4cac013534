/-! ===== All settings, in the law's order ===== -/
def sN (D : GDt) (l r : Int) : List SLt := setsN D (121 * (l + 60) + (r + 60)).toNat
section lset
variable {D : GDt} {l r l2 r2 a bl br : Int}
theorem slOf_lr {l r : Int} (hl : -60 ≤ l ∧ l ≤ 60) (hr : -60 ≤ r ∧ r ≤ 60) : slOf (121 * (l + 60) + (r + 60)).toNat = (l, r) := by
  unfold slOf
  rw [Prod.mk.injEq]
  omega
theorem isSet_lr {D : GDt} {l r : Int} : isSet D (l, r) = true ↔ ((-8 ≤ r - l ∧ r - l ≤ 8) ∧ alwB D (r - l) l = true) := by
  unfold isSet
  rw [Bool.and_eq_true, decide_eq_true_iff]
theorem sN_y (hl : -60 ≤ l ∧ l ≤ 60) (hr : -60 ≤ r ∧ r ≤ 60) (h1 : -8 ≤ r - l ∧ r - l ≤ 8) (h2 : alwB D (r - l) l = true) : sN D l (r + 1) = sN D l r ++ [(l, r)] := by
  unfold sN
  rw [show (121 * (l + 60) + (r + 1 + 60)).toNat = (121 * (l + 60) + (r + 60)).toNat + 1 by omega, setsN_s, slOf_lr hl hr, if_pos (isSet_lr.mpr ⟨h1, h2⟩)]
theorem sN_n (hl : -60 ≤ l ∧ l ≤ 60) (hr : -60 ≤ r ∧ r ≤ 60) (h : ¬ ((-8 ≤ r - l ∧ r - l ≤ 8) ∧ alwB D (r - l) l = true)) : sN D l (r + 1) = sN D l r := by
  unfold sN
  rw [show (121 * (l + 60) + (r + 1 + 60)).toNat = (121 * (l + 60) + (r + 60)).toNat + 1 by omega, setsN_s, slOf_lr hl hr, if_neg (fun q => h (isSet_lr.mp q)), List.append_nil]
theorem sN_skip (hl : -60 ≤ l ∧ l ≤ 60) : ∀ (d : Nat) (r : Int), -60 ≤ r → r + (d : Int) ≤ 61 → (∀ x, r ≤ x → x < r + (d : Int) → x < l - 8 ∨ l + 8 < x) → sN D l (r + (d : Int)) = sN D l r := by
  intro d
  induction d with
  | zero => intro r _ _ _; rw [show r + ((0 : Nat) : Int) = r by omega]
  | succ d ih =>
    intro r h1 h2 h3
    rw [show r + ((d + 1 : Nat) : Int) = (r + (d : Int)) + 1 by omega, sN_n hl (by omega) (fun q => by have := h3 (r + (d : Int)) (by omega) (by omega); omega)]
    exact ih r h1 (by omega) (fun x h4 h5 => h3 x h4 (by omega))
/-- the next row -/
theorem sN_row (hl : -60 ≤ l ∧ l ≤ 60) (hr : -60 ≤ r ∧ r ≤ 61) (h : ∀ x, r ≤ x → x < 61 → l + 8 < x) : sN D (l + 1) (-60) = sN D l r := by
  have h1 := sN_skip (D := D) hl (61 - r).toNat r hr.1 (by omega) (fun x h2 h3 => Or.inr (h x h2 (by omega)))
  rw [show r + (((61 - r).toNat : Nat) : Int) = 61 by omega] at h1
  rw [← h1]
  unfold sN
  congr 1
  omega
theorem sN_beg (hl : -60 ≤ l ∧ l ≤ 60) : sN D l (max (-60) (l - 8)) = sN D l (-60) := by
  have h1 := sN_skip (D := D) hl (max (-60) (l - 8) + 60).toNat (-60) (by decide) (by omega) (fun x h2 h3 => Or.inl (by omega))
  rw [show (-60 : Int) + (((max (-60) (l - 8) + 60).toNat : Nat) : Int) = max (-60) (l - 8) by omega] at h1
  exact h1
theorem sN_0 : sN D (-60) (-60) = [] := rfl
theorem sN_end : sN D 61 (-60) = setsD D := rfl
theorem sN_mem (h : GOK D) (hl : -60 ≤ l ∧ l ≤ 61) (hr : (-60 ≤ r ∧ r ≤ 61) ∧ 121 * (l + 60) + (r + 60) ≤ 14641) {q : SLt} (hq : q ∈ sN D l r) : inS (q.2 - q.1) q.1 ∧ alw D (q.2 - q.1) q.1 := by
  have hn := h.n
  unfold sN setsN at hq
  obtain ⟨h1, h2⟩ := List.mem_filter.mp hq
  obtain ⟨k, hk, rfl⟩ := List.mem_map.mp h1
  have hk' := List.mem_range.mp hk
  obtain ⟨h3, h4⟩ := isSet_lr.mp h2
  refine ⟨?_, (alwB_iff (by omega)).mp h4⟩
  have e1 : (slOf k).1 = ((k / 121 : Nat) : Int) - 60 := rfl
  have e2 : (slOf k).2 = ((k % 121 : Nat) : Int) - 60 := rfl
  by_cases hb : k < 14641
  · unfold inS inL; omega
  · unfold inS inL; omega
/-- none so far; the best so far -/
def fnN (L : List SLt) (a : Int) : Prop := L = [] ∧ a = 0
def fnY (D : GDt) (L : List SLt) (a bl br : Int) : Prop := a = (L.length : Int) ∧ (bl, br) ∈ L ∧ ∀ q ∈ L, keyq D (bl, br) ≤ keyq D q
theorem fn_1 {L : List SLt} (h : fnN L a) : fnY D (L ++ [(l, r)]) (a + 1) l r := by
  obtain ⟨rfl, rfl⟩ := h
  refine ⟨rfl, by simp, fun q hq => ?_⟩
  simp at hq
  rw [hq]
  exact Int.le_refl _
theorem fn_b {L : List SLt} (h : fnY D L a bl br) (hk : keyq D (l, r) < keyq D (bl, br)) : fnY D (L ++ [(l, r)]) (a + 1) l r := by
  obtain ⟨h1, h2, h3⟩ := h
  refine ⟨by rw [List.length_append, h1]; rfl, by simp, fun q hq => ?_⟩
  rcases List.mem_append.mp hq with q1 | q1
  · have := h3 q q1; omega
  · simp at q1; rw [q1]; exact Int.le_refl _
theorem fn_n {L : List SLt} (h : fnY D L a bl br) (hk : ¬ keyq D (l, r) < keyq D (bl, br)) : fnY D (L ++ [(l, r)]) (a + 1) bl br := by
  obtain ⟨h1, h2, h3⟩ := h
  refine ⟨by rw [List.length_append, h1]; rfl, List.mem_append_left _ h2, fun q hq => ?_⟩
  rcases List.mem_append.mp hq with q1 | q1
  · exact h3 q q1
  · simp at q1; rw [q1]; omega
theorem setsD_cn : ((setsD D).length : Int) = cnD D := by unfold cnD kl; rw [List.length_map]
theorem fn_endN (h : GOK D) (hf : fnN (setsD D) a) : a = cnD D ∧ mnK D = 9223372036854775807 ∧ cnD D = 0 := by
  have e : cnD D = 0 := by rw [← setsD_cn, hf.1]; rfl
  refine ⟨hf.2.trans e.symm, ?_, e⟩
  unfold mnK kl
  rw [hf.1]
  rfl
theorem fn_endY (h : GOK D) (hf : fnY D (setsD D) a bl br) : a = cnD D ∧ ¬ mnK D = 9223372036854775807 ∧ bl = bL D ∧ br = bR D ∧ (inS (br - bl) bl ∧ alw D (br - bl) bl) := by
  obtain ⟨h1, h2, h3⟩ := hf
  have hn := h.n
  obtain ⟨m1, m2⟩ : inS (br - bl) bl ∧ alw D (br - bl) bl := (setsD_mem (by omega) (bl, br)).mp h2
  have hk := key_r h m2 m1
  have hmn := mnK_is h
  have hle : mnK D ≤ key D (br - bl) bl := hmn.2.1 _ ⟨_, _, m1, m2, rfl⟩
  have hne : ¬ mnK D = 9223372036854775807 := by omega
  have heq : mnK D = key D (br - bl) bl := by
    rcases hmn.2.2 with q | ⟨s, l', q1, q2, q3⟩
    · exact absurd q hne
    · have h4 := h3 (l', l' + s) ((setsD_mem (by omega) _).mpr ⟨by rw [show l' + s - l' = s by omega]; exact q1, by rw [show l' + s - l' = s by omega]; exact q2⟩)
      have e1 : keyq D (bl, br) = key D (br - bl) bl := rfl
      have e2 : keyq D (l', l' + s) = key D s l' := by unfold keyq; rw [show (l' + s) - l' = s by omega]
      omega
  refine ⟨by rw [h1, setsD_cn], hne, ?_, ?_, m1, m2⟩
  · unfold bL; rw [heq]; exact (key_l h m2 m1).symm
  · have := key_rr h m2 m1
    unfold bR; rw [heq]; omega
/-- how many are ahead -/
def cnB (D : GDt) (L : List SLt) (k : Int) : Int := ((L.countP (fun q => decide (keyq D q < k)) : Nat) : Int)
theorem cnB_s {L : List SLt} {q : SLt} {k : Int} : cnB D (L ++ [q]) k = cnB D L k + if keyq D q < k then 1 else 0 := by
  unfold cnB
  rw [List.countP_append]
  by_cases h : keyq D q < k
  · rw [if_pos h, List.countP_singleton, decide_eq_true h]; simp
  · rw [if_neg h, List.countP_singleton, decide_eq_false h]; simp
theorem cnB_0 {k : Int} : cnB D [] k = 0 := rfl
theorem cnB_end {k : Int} : cnB D (setsD D) k = rkD D k := by
  unfold cnB rkD kl
  rw [List.countP_map]
  rfl
theorem cnB_r (L : List SLt) (k : Int) : 0 ≤ cnB D L k ∧ cnB D L k ≤ (L.length : Int) := by
  unfold cnB
  have := List.countP_le_length (p := fun q => decide (keyq D q < k)) (l := L)
  omega
theorem sN_len (hl : -60 ≤ l ∧ l ≤ 61) (hr : -60 ≤ r ∧ r ≤ 61) : ((sN D l r).length : Int) ≤ 14762 := by
  unfold sN setsN
  have h1 := List.length_filter_le (isSet D) ((List.range (121 * (l + 60) + (r + 60)).toNat).map slOf)
  rw [List.length_map, List.length_range] at h1
  omega
/-- one setting ahead of another, as the law asks it -/
theorem ah_key (h : GOK D) (h1 : (-60 ≤ l ∧ l ≤ 60) ∧ (-60 ≤ r ∧ r ≤ 60) ∧ (-8 ≤ r - l ∧ r - l ≤ 8)) (a1 : alw D (r - l) l) (h2 : (-60 ≤ l2 ∧ l2 ≤ 60) ∧ (-60 ≤ r2 ∧ r2 ≤ 60) ∧ (-8 ≤ r2 - l2 ∧ r2 - l2 ≤ 8)) (a2 : alw D (r2 - l2) l2) :
    ahI (stm D (r - l) l + slp D (r - l) + stf D (r - l) l) l r (lns D (r - l) l) (stm D (r2 - l2) l2 + slp D (r2 - l2) + stf D (r2 - l2) l2) l2 r2 (lns D (r2 - l2) l2) (way D 0) = am_b (keyq D (l, r) < keyq D (l2, r2)) := by
  have b1 := lns_r h a1
  have b2 := lns_r h a2
  have e1 : keyq D (l, r) = ((((stm D (r - l) l + slp D (r - l) + stf D (r - l) l) * 16 + ab (r - l)) * 16777216 + lns D (r - l) l) * 128 + 60 + way D 0 * l) * 128 + 60 + way D 0 * r := by
    show key D (r - l) l = _
    unfold key ugl lns
    rw [show l + (r - l) = r by omega]
    omega
  have e2 : keyq D (l2, r2) = ((((stm D (r2 - l2) l2 + slp D (r2 - l2) + stf D (r2 - l2) l2) * 16 + ab (r2 - l2)) * 16777216 + lns D (r2 - l2) l2) * 128 + 60 + way D 0 * l2) * 128 + 60 + way D 0 * r2 := by
    show key D (r2 - l2) l2 = _
    unfold key ugl lns
    rw [show l2 + (r2 - l2) = r2 by omega]
    omega
  have c1 : 0 ≤ ab (r - l) ∧ ab (r - l) ≤ 8 := by unfold ab; omega
  have c2 : 0 ≤ ab (r2 - l2) ∧ ab (r2 - l2) ≤ 8 := by unfold ab; omega
  rw [e1, e2]
  unfold ahI
  generalize stm D (r - l) l + slp D (r - l) + stf D (r - l) l = U1 at *
  generalize stm D (r2 - l2) l2 + slp D (r2 - l2) + stf D (r2 - l2) l2 = U2 at *
  generalize ab (r - l) = S1 at *
  generalize ab (r2 - l2) = S2 at *
  generalize lns D (r - l) l = L1 at *
  generalize lns D (r2 - l2) l2 = L2 at *
  have q := way_r D 0
  generalize way D 0 = w at *
  clear e1 e2
  unfold am_b
  by_cases hU : U1 = U2
  · by_cases hS : S1 = S2
    · by_cases hL : L1 = L2
      · by_cases hl : l = l2
        · simp only [hU, hS, hL, hl, not_true_eq_false, if_false]
          rcases q with q | q <;> subst q <;> (split <;> split <;> omega)
        · simp only [hU, hS, hL, hl, not_true_eq_false, not_false_eq_true, if_false, if_true]
          rcases q with q | q <;> subst q <;> (split <;> split <;> omega)
      · simp only [hU, hS, hL, not_true_eq_false, not_false_eq_true, if_false, if_true]
        rcases q with q | q <;> subst q <;> (split <;> split <;> omega)
    · simp only [hU, hS, not_true_eq_false, not_false_eq_true, if_false, if_true]
      rcases q with q | q <;> subst q <;> (split <;> split <;> omega)
  · simp only [hU, not_false_eq_true, if_true]
    rcases q with q | q <;> subst q <;> (split <;> split <;> omega)
/-- ranks tell settings apart -/
theorem rkD_inj (h : GOK D) {s l s' l' : Int} (i1 : inS s l) (a1 : alw D s l) (i2 : inS s' l') (a2 : alw D s' l') (e : rkD D (key D s l) = rkD D (key D s' l')) : s = s' ∧ l = l' := by
  refine key_inj h a1 i1 a2 i2 ?_
  have hlt : ∀ x y : Int, x ∈ kl D → x < y → rkD D x < rkD D y := by
    intro x y hx hxy
    unfold rkD
    have h1 : (kl D).countP (fun z => decide (z < x)) < (kl D).countP (fun z => decide (z < y)) := by
      rw [List.countP_eq_length_filter, List.countP_eq_length_filter]
      have hnd := kl_nd h
      have h2 : (kl D).countP (fun z => decide (z < x)) + 1 ≤ (kl D).countP (fun z => decide (z < y)) := by
        have h3 : (kl D).countP (fun z => decide (z < x)) + (kl D).countP (fun z => decide (z = x)) ≤ (kl D).countP (fun z => decide (z < y)) := by
          clear hnd hx e
          induction kl D with
          | nil => simp
          | cons c cs ih =>
            rw [List.countP_cons, List.countP_cons, List.countP_cons]
            by_cases k1 : c < x
            · simp [k1, show ¬ c = x by omega, show c < y by omega]; omega
            · by_cases k2 : c = x
              · simp [k2, hxy]; omega
              · by_cases k3 : c < y
                · simp [k1, k2, k3]; omega
                · simp [k1, k2, k3]; omega
        have h4 : 0 < (kl D).countP (fun z => decide (z = x)) := List.countP_pos_iff.mpr ⟨x, hx, by simp⟩
        omega
      rw [List.countP_eq_length_filter, List.countP_eq_length_filter] at h2
      exact h2
    omega
  have m1 := (kl_mem h (key D s l)).mpr ⟨_, _, i1, a1, rfl⟩
  have m2 := (kl_mem h (key D s' l')).mpr ⟨_, _, i2, a2, rfl⟩
  rcases Int.lt_trichotomy (key D s l) (key D s' l') with q | q | q
  · have := hlt _ _ m1 q; omega
  · exact q
  · have := hlt _ _ m2 q; omega
theorem rkD_lt (h : GOK D) {s l : Int} (i1 : inS s l) (a1 : alw D s l) : 0 ≤ rkD D (key D s l) ∧ rkD D (key D s l) < cnD D := by
  have m1 := (kl_mem h (key D s l)).mpr ⟨_, _, i1, a1, rfl⟩
  unfold rkD cnD
  generalize key D s l = x at m1
  have h3 : (kl D).countP (fun z => decide (z < x)) + (kl D).countP (fun z => decide (z = x)) ≤ (kl D).length := by
    clear m1
    induction kl D with
    | nil => simp
    | cons c cs ih =>
      rw [List.countP_cons, List.countP_cons, List.length_cons]
      by_cases k1 : c < x
      · simp [k1, show ¬ c = x by omega]; omega
      · by_cases k2 : c = x
        · simp [k2]; omega
        · simp [k1, k2]; omega
  have h4 : 0 < (kl D).countP (fun z => decide (z = x)) := List.countP_pos_iff.mpr ⟨x, m1, by simp⟩
  omega
theorem rnk_is (h : GOK D) {s l k w z : Int} (i1 : inS s l) (a1 : alw D s l) (hk : k = rkD D (key D s l)) (hz : (0 ≤ k ∧ k < cnD D ∧ ∃ s' l', inS s' l' ∧ alw D s' l' ∧ rkD D (key D s' l') = k ∧ z = tlv D s' l' w) ∨ (¬ (0 ≤ k ∧ k < cnD D) ∧ z = -1000000)) : z = tlv D s l w := by
  have h1 := rkD_lt h i1 a1
  rcases hz with ⟨-, -, s', l', i2, a2, e, q⟩ | ⟨q, -⟩
  · obtain ⟨rfl, rfl⟩ := rkD_inj h i2 a2 i1 a1 (e.trans hk)
    exact q
  · exact absurd (by rw [hk]; exact h1) q
theorem rnk_out {k w z : Int} (hk : k = cnD D) (hz : (0 ≤ k ∧ k < cnD D ∧ ∃ s' l', inS s' l' ∧ alw D s' l' ∧ rkD D (key D s' l') = k ∧ z = tlv D s' l' w) ∨ (¬ (0 ≤ k ∧ k < cnD D) ∧ z = -1000000)) : z = -1000000 := by
  rcases hz with ⟨-, h1, -⟩ | ⟨-, q⟩
  · omega
  · exact q
theorem lr_inS {l r : Int} (h : (-60 ≤ l ∧ l ≤ 60) ∧ (-60 ≤ r ∧ r ≤ 60) ∧ (-8 ≤ r - l ∧ r - l ≤ 8)) : inS (r - l) l := by unfold inS inL; omega
end lset
