/-! ===== All settings that are allowed, as a list; rows of keys ===== -/
def alwI (D : GDt) (s l i : Int) : Bool := itr (fun j b => b && decide (lst (dB D j) * spn D ≤ len D s l j ∧ len D s l j ≤ 44 * spn D)) true i
def alwB (D : GDt) (s l : Int) : Bool := alwI D s l (dN D)
theorem alwI_s {D : GDt} {s l i : Int} (h : 0 ≤ i) : alwI D s l (i + 1) = (alwI D s l i && decide (lst (dB D i) * spn D ≤ len D s l i ∧ len D s l i ≤ 44 * spn D)) := itr_succ h
theorem alwI_iff {D : GDt} {s l i : Int} (h : 0 ≤ i) : alwI D s l i = true ↔ alN D s l i := by
  refine itr_ind (fun i b => b = true ↔ alN D s l i) ⟨fun _ => alN_0, fun _ => rfl⟩ ?_ i h
  intro j x h1 h2
  rw [alN_s h1, Bool.and_eq_true, decide_eq_true_iff, h2]
  rfl
theorem alwB_iff {D : GDt} {s l : Int} (h : 0 ≤ dN D) : alwB D s l = true ↔ alw D s l := alwI_iff h
abbrev SLt : Type := Int × Int
/-- left and right height by number -/
def slOf (k : Nat) : SLt := (((k / 121 : Nat) : Int) - 60, ((k % 121 : Nat) : Int) - 60)
def isSet (D : GDt) (q : SLt) : Bool := decide (-8 ≤ q.2 - q.1 ∧ q.2 - q.1 ≤ 8) && alwB D (q.2 - q.1) q.1
def setsN (D : GDt) (m : Nat) : List SLt := ((List.range m).map slOf).filter (isSet D)
def setsD (D : GDt) : List SLt := setsN D 14641
theorem setsN_s (D : GDt) (m : Nat) : setsN D (m + 1) = setsN D m ++ (if isSet D (slOf m) = true then [slOf m] else []) := by
  unfold setsN
  rw [List.range_succ, List.map_append, List.filter_append, List.map_singleton]
  congr 1
  cases h : isSet D (slOf m) <;> simp [List.filter, h]
theorem slOf_inj {a b : Nat} (h : slOf a = slOf b) : a = b := by
  unfold slOf at h
  rw [Prod.mk.injEq] at h
  omega
theorem setsN_nd (D : GDt) (m : Nat) : (setsN D m).Nodup := by
  unfold setsN
  rw [List.nodup_iff_pairwise_ne]
  refine List.Pairwise.filter _ ?_
  rw [List.pairwise_map]
  exact (List.nodup_iff_pairwise_ne.mp List.nodup_range).imp (fun h e => h (slOf_inj e))
theorem setsD_mem {D : GDt} (hn : 0 ≤ dN D) (q : SLt) : q ∈ setsD D ↔ inS (q.2 - q.1) q.1 ∧ alw D (q.2 - q.1) q.1 := by
  obtain ⟨l, r⟩ := q
  unfold setsD setsN
  rw [List.mem_filter]
  unfold isSet
  rw [Bool.and_eq_true, decide_eq_true_iff, alwB_iff hn]
  constructor
  · rintro ⟨h1, h2, h3⟩
    obtain ⟨k, hk, he⟩ := List.mem_map.mp h1
    rw [List.mem_range] at hk
    unfold slOf at he
    rw [Prod.mk.injEq] at he
    refine ⟨⟨⟨?_, ?_⟩, h2⟩, h3⟩
    · show -60 ≤ l ∧ l ≤ 60
      omega
    · show -60 ≤ l + (r - l) ∧ l + (r - l) ≤ 60
      omega
  · rintro ⟨⟨⟨h1, h2⟩, h3⟩, h4⟩
    refine ⟨List.mem_map.mpr ⟨((l + 60) * 121 + (r + 60)).toNat, ?_, ?_⟩, h3, h4⟩
    · rw [List.mem_range]
      show _ < 14641
      have h5 : -60 ≤ l ∧ l ≤ 60 := h1
      have h6 : -60 ≤ l + (r - l) ∧ l + (r - l) ≤ 60 := h2
      omega
    · have h5 : -60 ≤ l ∧ l ≤ 60 := h1
      have h6 : -60 ≤ l + (r - l) ∧ l + (r - l) ≤ 60 := h2
      unfold slOf
      rw [Prod.mk.injEq]
      omega
/-- the keys of all -/
def keyq (D : GDt) (q : SLt) : Int := key D (q.2 - q.1) q.1
def kl (D : GDt) : List Int := (setsD D).map (keyq D)
theorem kl_nd {D : GDt} (h : GOK D) : (kl D).Nodup := by
  unfold kl
  rw [List.nodup_iff_pairwise_ne, List.pairwise_map]
  refine List.Pairwise.imp_of_mem ?_ (List.nodup_iff_pairwise_ne.mp (setsN_nd D 14641))
  intro a b ha hb hab e
  have hn := h.n
  have h1 := (setsD_mem (D := D) (by omega) a).mp ha
  have h2 := (setsD_mem (D := D) (by omega) b).mp hb
  have h3 := key_inj h h1.2 h1.1 h2.2 h2.1 e
  exact hab (Prod.ext h3.2 (by omega))
theorem kl_mem {D : GDt} (h : GOK D) (x : Int) : x ∈ kl D ↔ ∃ s l, inS s l ∧ alw D s l ∧ x = key D s l := by
  have hn := h.n
  unfold kl
  rw [List.mem_map]
  constructor
  · rintro ⟨q, h1, h2⟩
    have h3 := (setsD_mem (D := D) (by omega) q).mp h1
    exact ⟨q.2 - q.1, q.1, h3.1, h3.2, h2.symm⟩
  · rintro ⟨s, l, h1, h2, rfl⟩
    refine ⟨(l, l + s), (setsD_mem (D := D) (by omega) _).mpr ?_, ?_⟩
    · show inS (l + s - l) l ∧ alw D (l + s - l) l
      rw [show l + s - l = s by omega]
      exact ⟨h1, h2⟩
    · show key D (l + s - l) l = _
      rw [show l + s - l = s by omega]
/-- how many settings; which place of them a key has -/
def cnD (D : GDt) : Int := ((kl D).length : Int)
def rkD (D : GDt) (k : Int) : Int := (((kl D).countP (fun x => decide (x < k)) : Nat) : Int)
def rowL (f : Int → Int) (c : Int) : List Int := (List.range c.toNat).map (fun (j : Nat) => f (j : Int))
theorem rowL_s {f : Int → Int} {c : Int} (h : 0 ≤ c) : rowL f (c + 1) = rowL f c ++ [f c] := by
  unfold rowL
  rw [show (c + 1).toNat = c.toNat + 1 by omega, List.range_succ, List.map_append, List.map_singleton, show ((c.toNat : Nat) : Int) = c by omega]
theorem rowL_mem {f : Int → Int} {c x : Int} : x ∈ rowL f c ↔ ∃ j, (0 ≤ j ∧ j < c) ∧ f j = x := by
  unfold rowL
  rw [List.mem_map]
  constructor
  · rintro ⟨j, h1, h2⟩
    rw [List.mem_range] at h1
    exact ⟨j, by omega, h2⟩
  · rintro ⟨j, h1, h2⟩
    exact ⟨j.toNat, by rw [List.mem_range]; omega, by rw [show ((j.toNat : Nat) : Int) = j by omega]; exact h2⟩
theorem rowL_len {f : Int → Int} {c : Int} (h : 0 ≤ c) : ((rowL f c).length : Int) = c := by
  unfold rowL
  rw [List.length_map, List.length_range]
  omega
theorem rowL_nd {f : Int → Int} {c : Int} (h : ∀ i j, 0 ≤ i → i < j → j < c → f i ≠ f j) : (rowL f c).Nodup := by
  unfold rowL
  rw [List.nodup_iff_pairwise_ne, List.pairwise_map]
  refine List.Pairwise.imp_of_mem ?_ (List.pairwise_lt_range (n := c.toNat))
  intro a b ha hb hab
  rw [List.mem_range] at hb
  exact h a b (by omega) (by omega) (by omega)
theorem rowL_cg {f g : Int → Int} {c : Int} (h : ∀ j, 0 ≤ j → j < c → f j = g j) : rowL f c = rowL g c := by
  unfold rowL
  refine List.map_congr_left (fun j hj => ?_)
  rw [List.mem_range] at hj
  exact h j (by omega) (by omega)
def cntlt (f : Int → Int) (k c : Int) : Int := itr (fun j a => a + if f j < k then 1 else 0) 0 c
theorem cntlt_s {f : Int → Int} {k c : Int} (h : 0 ≤ c) : cntlt f k (c + 1) = cntlt f k c + if f c < k then 1 else 0 := itr_succ h
theorem cntlt_r {f : Int → Int} {k c : Int} (h : 0 ≤ c) : 0 ≤ cntlt f k c ∧ cntlt f k c ≤ c :=
  itr_ind (fun i x => 0 ≤ x ∧ x ≤ i) (by simp) (fun i x h1 h2 => by split <;> omega) c h
theorem cntlt_L {f : Int → Int} {k c : Int} (h : 0 ≤ c) : cntlt f k c = (((rowL f c).countP (fun x => decide (x < k)) : Nat) : Int) := by
  refine itr_ind (g := fun j a => a + if f j < k then 1 else 0) (a := 0) (fun i x => x = (((rowL f i).countP (fun x => decide (x < k)) : Nat) : Int)) rfl ?_ c h
  intro i x h1 h2
  rw [rowL_s h1, List.countP_append, h2]
  by_cases hc : f i < k
  · simp [hc]
  · simp [hc]
/-- a row of keys of settings, each of those of B once -/
def GKp (D : GDt) (B : Int → Int → Prop) (c : Int) (f : Int → Int) : Prop := (0 ≤ c ∧ c ≤ 595) ∧ (∀ j, 0 ≤ j → j < c → ∃ s l, inS s l ∧ alw D s l ∧ B s l ∧ f j = key D s l) ∧
  (∀ s l, inS s l → alw D s l → B s l → ∃ j, (0 ≤ j ∧ j < c) ∧ f j = key D s l) ∧ (∀ i j, 0 ≤ i → i < j → j < c → f i ≠ f j)
theorem GKp_0 {D : GDt} {B : Int → Int → Prop} {f : Int → Int} (h : ∀ s l, inS s l → ¬ B s l) : GKp D B 0 f :=
  ⟨by omega, fun j h1 h2 => by omega, fun s l h1 _ h3 => absurd h3 (h s l h1), fun i j h1 h2 h3 => by omega⟩
theorem GKp_cg {D : GDt} {B B' : Int → Int → Prop} {c : Int} {f : Int → Int} (h : GKp D B c f) (e : ∀ s l, inS s l → alw D s l → (B s l ↔ B' s l)) : GKp D B' c f := by
  obtain ⟨h1, h2, h3, h4⟩ := h
  refine ⟨h1, fun j q1 q2 => ?_, fun s l q1 q2 q3 => h3 s l q1 q2 ((e s l q1 q2).mpr q3), h4⟩
  obtain ⟨s, l, a, b, d, e1⟩ := h2 j q1 q2
  exact ⟨s, l, a, b, (e s l a b).mp d, e1⟩
theorem GKp_add {D : GDt} {B : Int → Int → Prop} {c s l : Int} {μ : Mu} (hok : GOK D) (h : GKp D B c (μ 12)) (hs : inS s l) (ha : alw D s l) (hb : ¬ B s l) (hc : c < 595) :
    GKp D (fun s' l' => B s' l' ∨ (s' = s ∧ l' = l)) (c + 1) (am_up μ 12 c (key D s l) 12) := by
  obtain ⟨h1, h2, h3, h4⟩ := h
  have hlt : ∀ j, j < c → am_up μ 12 c (key D s l) 12 j = μ 12 j := fun j q => am_up_nk (by omega)
  have hat : am_up μ 12 c (key D s l) 12 c = key D s l := am_up_at
  refine ⟨by omega, fun j q1 q2 => ?_, fun s' l' q1 q2 q3 => ?_, fun i j q1 q2 q3 => ?_⟩
  · by_cases hj : j < c
    · obtain ⟨s', l', a, b, d, e1⟩ := h2 j q1 hj
      exact ⟨s', l', a, b, Or.inl d, by rw [hlt j hj]; exact e1⟩
    · have : j = c := by omega
      subst this
      exact ⟨s, l, hs, ha, Or.inr ⟨rfl, rfl⟩, hat⟩
  · rcases q3 with q | ⟨rfl, rfl⟩
    · obtain ⟨j, a, b⟩ := h3 s' l' q1 q2 q
      exact ⟨j, by omega, by rw [hlt j a.2]; exact b⟩
    · exact ⟨c, by omega, hat⟩
  · rw [hlt i (by omega)]
    by_cases hj : j < c
    · rw [hlt j hj]
      exact h4 i j q1 q2 hj
    · have : j = c := by omega
      subst this
      rw [hat]
      intro e
      obtain ⟨s', l', a, b, d, e1⟩ := h2 i q1 q2
      rw [e1] at e
      obtain ⟨rfl, rfl⟩ := key_inj hok b a ha hs e
      exact hb d
def GK (D : GDt) (μ : Mu) : Prop := GKp D (fun _ _ => True) (μ 6 11) (μ 12) ∧ GOK D
theorem GK.cg2 {D : GDt} {μ μ1 : Mu} (h : GK D μ) (e : ∀ o : Int, 12 ≤ o ∧ o ≤ 12 → μ1 o = μ o) (f : ∀ k : Int, k = 11 → μ1 6 k = μ 6 k) : GK D μ1 := by
  unfold GK at h ⊢
  rw [e 12 (by omega), f 11 rfl]
  exact h
theorem GK.c {D : GDt} {μ : Mu} (h : GK D μ) : 0 ≤ μ 6 11 ∧ μ 6 11 ≤ 595 := h.1.1
theorem GK.perm {D : GDt} {μ : Mu} (h : GK D μ) : (rowL (μ 12) (μ 6 11)).Perm (kl D) := by
  obtain ⟨⟨h1, h2, h3, h4⟩, hok⟩ := h
  refine (List.perm_ext_iff_of_nodup (rowL_nd h4) (kl_nd hok)).mpr (fun x => ?_)
  rw [rowL_mem, kl_mem hok]
  constructor
  · rintro ⟨j, q, rfl⟩
    obtain ⟨s, l, a, b, d, e1⟩ := h2 j q.1 q.2
    exact ⟨s, l, a, b, e1⟩
  · rintro ⟨s, l, a, b, rfl⟩
    exact h3 s l a b trivial
theorem GK.cn {D : GDt} {μ : Mu} (h : GK D μ) : μ 6 11 = cnD D := by
  have h1 := h.perm.length_eq
  have h2 := rowL_len (f := μ 12) h.c.1
  unfold cnD
  omega
theorem GK.rk {D : GDt} {μ : Mu} (h : GK D μ) (k : Int) : cntlt (μ 12) k (μ 6 11) = rkD D k := by
  rw [cntlt_L h.c.1, h.perm.countP_eq]
  rfl
theorem GK.kr {D : GDt} {μ : Mu} (h : GK D μ) {j : Int} (hj : 0 ≤ j ∧ j < μ 6 11) : 0 ≤ μ 12 j ∧ μ 12 j ≤ 30000000000000000 := by
  obtain ⟨s, l, a, b, d, e1⟩ := h.1.2.1 j hj.1 hj.2
  have := key_r h.2 b a
  omega
