/-! ===== Sorting rows ===== -/
def fup (f : Int → Int) (a v : Int) : Int → Int := fun j => if j = a then v else f j
theorem fup_at {f : Int → Int} {a v : Int} : fup f a v a = v := if_pos rfl
theorem fup_ne {f : Int → Int} {a v j : Int} (h : j ≠ a) : fup f a v j = f j := if_neg h
theorem up_fup (μ : Mu) (o a v : Int) : am_up μ o a v o = fup (μ o) a v := by
  funext j
  rw [am_up_k]
  rfl
def swN (i j k : Nat) : Nat := if k = i then j else if k = j then i else k
theorem swN_c (i j k : Nat) : (k = i ∧ swN i j k = j) ∨ (¬ k = i ∧ k = j ∧ swN i j k = i) ∨ (¬ k = i ∧ ¬ k = j ∧ swN i j k = k) := by
  unfold swN
  by_cases h : k = i
  · simp [h]
  · by_cases h2 : k = j
    · exact Or.inr (Or.inl ⟨h, h2, by rw [if_neg h, if_pos h2]⟩)
    · exact Or.inr (Or.inr ⟨h, h2, by rw [if_neg h, if_neg h2]⟩)
theorem perm_swap {f g : Int → Int} {c i j : Int} (hi : 0 ≤ i ∧ i < c) (hj : 0 ≤ j ∧ j < c) (h : ∀ k, 0 ≤ k → k < c → g k = f (if k = i then j else if k = j then i else k)) : (rowL g c).Perm (rowL f c) := by
  have h1 : rowL g c = ((List.range c.toNat).map (swN i.toNat j.toNat)).map (fun (k : Nat) => f (k : Int)) := by
    unfold rowL
    rw [List.map_map]
    refine List.map_congr_left (fun k hk => ?_)
    rw [List.mem_range] at hk
    rw [h k (by omega) (by omega)]
    show f _ = f (swN i.toNat j.toNat k : Nat)
    have := swN_c i.toNat j.toNat k
    congr 1
    omega
  rw [h1]
  unfold rowL
  refine List.Perm.map _ ((List.perm_ext_iff_of_nodup ?_ List.nodup_range).mpr ?_)
  · rw [List.nodup_iff_pairwise_ne, List.pairwise_map]
    refine (List.nodup_iff_pairwise_ne.mp List.nodup_range).imp ?_
    intro a b hab e
    apply hab
    have h2 := swN_c i.toNat j.toNat a
    have h3 := swN_c i.toNat j.toNat b
    omega
  · intro x
    rw [List.mem_map]
    have h3 := swN_c i.toNat j.toNat x
    constructor
    · rintro ⟨k, h2, rfl⟩
      have h4 := swN_c i.toNat j.toNat k
      rw [List.mem_range] at h2 ⊢
      omega
    · intro h2
      rw [List.mem_range] at h2
      have h4 := swN_c i.toNat j.toNat (swN i.toNat j.toNat x)
      exact ⟨swN i.toNat j.toNat x, by rw [List.mem_range]; omega, by omega⟩
theorem perm_b {f g : Int → Int} {c : Int} (h : (rowL g c).Perm (rowL f c)) {P : Int → Prop} (hf : ∀ j, 0 ≤ j → j < c → P (f j)) {j : Int} (hj : 0 ≤ j ∧ j < c) : P (g j) := by
  have h1 : g j ∈ rowL g c := rowL_mem.mpr ⟨j, hj, rfl⟩
  have h2 := h.mem_iff.mp h1
  obtain ⟨k, h3, h4⟩ := rowL_mem.mp h2
  rw [← h4]
  exact hf k h3.1 h3.2
def srt (f : Int → Int) (c : Int) : Prop := ∀ a b, 0 ≤ a → a < b → b < c → f a ≤ f b
/-- sorted but for a hole, behind which all is k at least -/
def srh (f : Int → Int) (i at_ k : Int) : Prop := (∀ a b, 0 ≤ a → a < b → b ≤ i → a ≠ at_ → b ≠ at_ → f a ≤ f b) ∧ (∀ b, at_ < b → b ≤ i → k ≤ f b)
theorem srh_0 {f : Int → Int} {i k : Int} (h : srt f i) : srh f i i k := ⟨fun a b h1 h2 h3 h4 h5 => h a b h1 h2 (by omega), fun b h1 h2 => by omega⟩
theorem srh_s {f : Int → Int} {i a k : Int} (ha : 1 ≤ a ∧ a ≤ i) (h : srh f i a k) (hk : k < f (a - 1)) : srh (fup f a (f (a - 1))) i (a - 1) k := by
  refine ⟨fun x y h1 h2 h3 h4 h5 => ?_, fun b h1 h2 => ?_⟩
  · by_cases hx : x = a
    · subst hx
      rw [fup_at, fup_ne (by omega)]
      exact h.1 _ _ (by omega) (by omega) h3 (by omega) (by omega)
    · rw [fup_ne hx]
      by_cases hy : y = a
      · subst hy
        rw [fup_at]
        by_cases hz : x = y - 1
        · omega
        · exact h.1 _ _ h1 (by omega) (by omega) (by omega) (by omega)
      · rw [fup_ne hy]
        exact h.1 x y h1 h2 h3 hx hy
  · by_cases hb : b = a
    · subst hb; rw [fup_at]; omega
    · rw [fup_ne hb]
      exact h.2 b (by omega) h2
theorem srh_e {f : Int → Int} {i a k : Int} (ha : 0 ≤ a ∧ a ≤ i) (h : srh f i a k) (hk : a < 1 ∨ f (a - 1) ≤ k) : srt (fup f a k) (i + 1) := by
  intro x y h1 h2 h3
  by_cases hx : x = a
  · subst hx
    rw [fup_at, fup_ne (by omega)]
    exact h.2 y h2 (by omega)
  · rw [fup_ne hx]
    by_cases hy : y = a
    · subst hy
      rw [fup_at]
      rcases hk with q | q
      · omega
      · by_cases hz : x = y - 1
        · subst hz; exact q
        · have := h.1 x (y - 1) h1 (by omega) (by omega) (by omega) (by omega)
          omega
    · rw [fup_ne hy]
      exact h.1 x y h1 h2 (by omega) hx hy
/-- one move of the insertion -/
theorem perm_mv {f f0 : Int → Int} {c a g k : Int} (h : (rowL (fup f a k) c).Perm (rowL f0 c)) (hg : 0 < g ∧ g ≤ a) (ha : a < c) : (rowL (fup (fup f a (f (a - g))) (a - g) k) c).Perm (rowL f0 c) := by
  refine List.Perm.trans (perm_swap (i := a) (j := a - g) (by omega) (by omega) (fun x h1 h2 => ?_)) h
  by_cases hx : x = a
  · subst hx
    rw [fup_ne (by omega), fup_at, if_pos rfl, fup_ne (by omega)]
  · rw [if_neg hx]
    by_cases hy : x = a - g
    · rw [if_pos hy, hy, fup_at, fup_at]
    · rw [if_neg hy, fup_ne hy, fup_ne hx, fup_ne hx]
theorem fup_self {f : Int → Int} {a v : Int} (h : v = f a) : fup f a v = f := by
  funext j
  unfold fup
  split
  · subst_vars; rfl
  · rfl
/-- in a sorted row of unlike numbers as many are less as stand ahead -/
theorem srt_cnt {f : Int → Int} {c k : Int} (hs : srt f c) (hn : ∀ i j, 0 ≤ i → i < j → j < c → f i ≠ f j) (hk : 0 ≤ k ∧ k < c) : cntlt f (f k) c = k := by
  have h1 : ∀ i, 0 ≤ i → i ≤ c → cntlt f (f k) i = min i k := by
    refine itr_indn (fun i x => x = min i k) (by omega) ?_
    intro i x h1 h2 h3
    by_cases hik : i < k
    · have h4 := hs i k h1 hik hk.2
      have h5 := hn i k h1 hik hk.2
      rw [if_pos (by omega)]
      omega
    · rw [if_neg]
      · omega
      · by_cases e : i = k
        · subst e; omega
        · have h4 := hs k i hk.1 (by omega) h2
          omega
  rw [h1 c (by omega) (Int.le_refl c)]
  omega
theorem rowL_nd' {f : Int → Int} {c : Int} (h : (rowL f c).Nodup) : ∀ i j, 0 ≤ i → i < j → j < c → f i ≠ f j := by
  intro i j h1 h2 h3 e
  unfold rowL at h
  rw [List.nodup_iff_pairwise_ne, List.pairwise_map, List.pairwise_iff_getElem] at h
  have := h i.toNat j.toNat (by rw [List.length_range]; omega) (by rw [List.length_range]; omega) (by omega)
  rw [List.getElem_range, List.getElem_range] at this
  apply this
  rw [show ((i.toNat : Nat) : Int) = i by omega, show ((j.toNat : Nat) : Int) = j by omega]
  exact e
theorem ga_i {s s1 l1 lo h9 : Int} (h : s1 = s → lo ≤ l1 ∧ l1 ≤ h9) : s1 < s ↔ (s1 < s ∨ (s1 = s ∧ l1 < lo)) := by omega
theorem ga_o {s s1 l1 l lo hi : Int} (h : s1 = s → lo ≤ l1 ∧ l1 ≤ hi) (hl : hi < l) : (s1 < s ∨ (s1 = s ∧ l1 < l)) ↔ s1 < s + 1 := by omega
theorem GK.ok {D : GDt} {μ : Mu} (h : GK D μ) : GOK D := h.2
theorem srt_rk {D : GDt} {μ : Mu} {f : Int → Int} {k : Int} (hG : GK D μ) (hp : (rowL f (μ 6 11)).Perm (rowL (μ 12) (μ 6 11))) (hs : srt f (μ 6 11)) (hk : 0 ≤ k ∧ k < μ 6 11) :
    ∃ s l, inS s l ∧ alw D s l ∧ f k = key D s l ∧ rkD D (key D s l) = k := by
  have h1 := hp.trans hG.perm
  have h2 : f k ∈ kl D := h1.mem_iff.mp (rowL_mem.mpr ⟨k, hk, rfl⟩)
  obtain ⟨s, l, a, b, e⟩ := (kl_mem hG.2 _).mp h2
  refine ⟨s, l, a, b, e, ?_⟩
  rw [← e]
  have h3 := srt_cnt hs (rowL_nd' (h1.nodup_iff.mpr (kl_nd hG.2))) hk
  rw [cntlt_L hG.c.1, h1.countP_eq] at h3
  exact h3
