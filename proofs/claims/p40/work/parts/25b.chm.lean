theorem blR_b {D : GDt} (hok : GOK D) {f bh g : Int → Int} {k : Int} (hb : ∀ r, -60 ≤ r → r ≤ 60 → 0 ≤ bh r) (h : blR D f bh k g) {l : Int} (hl : -60 ≤ l ∧ l ≤ 60) : 0 ≤ g (l + 60) ∧ g (l + 60) ≤ 1000000000 := by
  refine isMn_nn (by decide) (h l hl.1 hl.2) ?_
  rintro x ⟨j, s, _, q1, q2, _, rfl⟩
  have h2 := ugl_r hok q2 q1.2
  have h3 := hb (l + s) q1.1.2.1 q1.1.2.2
  omega
theorem clR_b {D : GDt} (hok : GOK D) {f bh : Int → Int} {k v : Int} (hb : ∀ r, -60 ≤ r → r ≤ 60 → 0 ≤ bh r) (h : clR D f bh k v) : 0 ≤ v ∧ v ≤ 1000000000 := by
  refine isMn_nn (by decide) h ?_
  rintro x ⟨l, j, s, _, q1, q2, _, rfl⟩
  have h2 := ugl_r hok q2 q1.2
  have h3 := hb (l + s) q1.1.2.1 q1.1.2.2
  omega
theorem lnR_b {D : GDt} (hok : GOK D) {bh : Int → Int} {lo i v : Int} (hb : ∀ r, -60 ≤ r → r ≤ 60 → 0 ≤ bh r) (h : lnR D bh lo i v) : 0 ≤ v ∧ v ≤ 1000000000 := by
  refine isMn_nn (by decide) h ?_
  rintro x ⟨l, _, s, q1, q2, rfl⟩
  have h2 := ugl_r hok q2 q1.2
  have h3 := hb (l + s) q1.1.2.1 q1.1.2.2
  omega
/-! the choice: of those near enough the cheapest, of several the least key -/
def cst (D : GDt) (bh : Int → Int) (s l : Int) : Int := ugl D s l + bh (l + s)
def isCh (D : GDt) (bh : Int → Int) (r n z : Int) : Prop := ∃ s l, inS s l ∧ alw D s l ∧ ab (l - r) ≤ n ∧ z = key D s l ∧ ∀ s' l', inS s' l' → alw D s' l' → ab (l' - r) ≤ n → (cst D bh s l < cst D bh s' l' ∨ (cst D bh s l = cst D bh s' l' ∧ key D s l ≤ key D s' l'))
theorem isCh_u {D : GDt} {bh : Int → Int} {r n z z' : Int} (h : isCh D bh r n z) (h' : isCh D bh r n z') : z = z' := by
  obtain ⟨s, l, a1, a2, a3, rfl, a5⟩ := h
  obtain ⟨s', l', b1, b2, b3, rfl, b5⟩ := h'
  have h1 := a5 s' l' b1 b2 b3
  have h2 := b5 s l a1 a2 a3
  omega
def wgt (D : GDt) (bh : Int → Int) (q : SLt) : Int := (uglq D q + bh q.2) * 4611686018427387904 + keyq D q
def chL (D : GDt) (bh : Int → Int) (r n : Int) : List Int := ((setsD D).filter (fun q => decide (ab (q.1 - r) ≤ n))).map (wgt D bh)
def chF (D : GDt) (bh : Int → Int) (r n : Int) : Int := mnL 10000000000000000000000000000000000000000 (chL D bh r n) % 4611686018427387904
theorem chL_mem {D : GDt} (h : GOK D) (bh : Int → Int) (r n x : Int) : x ∈ chL D bh r n ↔ ∃ s l, inS s l ∧ alw D s l ∧ ab (l - r) ≤ n ∧ x = cst D bh s l * 4611686018427387904 + key D s l := by
  have hn := h.n
  unfold chL
  rw [List.mem_map]
  constructor
  · rintro ⟨q, h1, h2⟩
    rw [List.mem_filter, decide_eq_true_iff] at h1
    have h3 := (setsD_mem (D := D) (by omega) q).mp h1.1
    refine ⟨q.2 - q.1, q.1, h3.1, h3.2, h1.2, ?_⟩
    rw [← h2]
    unfold wgt cst
    rw [show q.1 + (q.2 - q.1) = q.2 by omega]
    rfl
  · rintro ⟨s, l, h1, h2, h3, rfl⟩
    refine ⟨(l, l + s), ?_, ?_⟩
    · rw [List.mem_filter, decide_eq_true_iff]
      refine ⟨(setsD_mem (D := D) (by omega) _).mpr ?_, h3⟩
      show inS (l + s - l) l ∧ alw D (l + s - l) l
      rw [show l + s - l = s by omega]
      exact ⟨h1, h2⟩
    · show (ugl D (l + s - l) l + bh (l + s)) * _ + key D (l + s - l) l = _
      rw [show l + s - l = s by omega]
      rfl
def FE (D : GDt) (bh : Int → Int) (B r n : Int) : Prop := ∃ s l, inS s l ∧ alw D s l ∧ ab (l - r) ≤ n ∧ cst D bh s l < B
theorem chF_is {D : GDt} (h : GOK D) {bh : Int → Int} {B r n : Int} (hb : ∀ r, -60 ≤ r → r ≤ 60 → 0 ≤ bh r ∧ bh r ≤ 1000000000) (hf : FE D bh B r n) : isCh D bh r n (chF D bh r n) := by
  have h1 := isMn_cg (mnL_is 10000000000000000000000000000000000000000 (chL D bh r n)) (fun x => chL_mem h bh r n x)
  have hbd : ∀ s l, inS s l → alw D s l → (0 ≤ cst D bh s l ∧ cst D bh s l ≤ 1000005880) ∧ (0 ≤ key D s l ∧ key D s l < 30000000000000000) := fun s l q1 q2 => by
    have h2 := ugl_r h q2 q1.2
    have h3 := hb (l + s) q1.1.2.1 q1.1.2.2
    exact ⟨by unfold cst; omega, key_r h q2 q1⟩
  unfold chF
  generalize mnL 10000000000000000000000000000000000000000 (chL D bh r n) = v at *
  obtain ⟨g1, g2, g3⟩ := h1
  rcases g3 with g3 | ⟨s, l, a1, a2, a3, a4⟩
  · exfalso
    obtain ⟨s, l, a1, a2, a3, _⟩ := hf
    have := g2 _ ⟨s, l, a1, a2, a3, rfl⟩
    have := hbd s l a1 a2
    omega
  · refine ⟨s, l, a1, a2, a3, ?_, ?_⟩
    · have := hbd s l a1 a2
      omega
    · intro s' l' b1 b2 b3
      have h4 := g2 _ ⟨s', l', b1, b2, b3, rfl⟩
      have := hbd s l a1 a2
      have := hbd s' l' b1 b2
      omega
/-- the choice among the first k keys of a row, costs cut -/
def cpR (D : GDt) (f bh : Int → Int) (r n k v z : Int) : Prop := (v ≤ 1000000000 ∧ 0 ≤ v) ∧ isK D z ∧ ((v = 1000000000 ∧ z = 9223372036854775807) ∨ ∃ s l, inS s l ∧ alw D s l ∧ ab (l - r) ≤ n ∧ z = key D s l ∧ v = min 1000000000 (cst D bh s l)) ∧
  ∀ j s l, 0 ≤ j → j < k → inS s l → alw D s l → ab (l - r) ≤ n → f j = key D s l → (v < min 1000000000 (cst D bh s l) ∨ (v = min 1000000000 (cst D bh s l) ∧ z ≤ key D s l))
theorem cpR_0 {D : GDt} {f bh : Int → Int} {r n : Int} : cpR D f bh r n 0 1000000000 9223372036854775807 :=
  ⟨by omega, Or.inl rfl, Or.inl ⟨rfl, rfl⟩, fun j s l h1 h2 => by omega⟩
theorem cpR_far {D : GDt} (hok : GOK D) {f bh : Int → Int} {r n k v z s l : Int} (h : cpR D f bh r n k v z) (h1 : inS s l) (h2 : alw D s l) (h3 : f k = key D s l) (hf : n < ab (l - r)) : cpR D f bh r n (k + 1) v z := by
  refine ⟨h.1, h.2.1, h.2.2.1, fun j s' l' q0 q1 q2 q3 q4 q5 => ?_⟩
  by_cases hj : j < k
  · exact h.2.2.2 j s' l' q0 hj q2 q3 q4 q5
  · have : j = k := by omega
    subst this
    rw [h3] at q5
    obtain ⟨rfl, rfl⟩ := key_inj hok h2 h1 q3 q2 q5
    omega
theorem cpR_keep {D : GDt} (hok : GOK D) {f bh : Int → Int} {r n k v z s l : Int} (h : cpR D f bh r n k v z) (h1 : inS s l) (h2 : alw D s l) (h3 : f k = key D s l) (hc : v < min 1000000000 (cst D bh s l) ∨ (v = min 1000000000 (cst D bh s l) ∧ z ≤ key D s l)) : cpR D f bh r n (k + 1) v z := by
  refine ⟨h.1, h.2.1, h.2.2.1, fun j s' l' q0 q1 q2 q3 q4 q5 => ?_⟩
  by_cases hj : j < k
  · exact h.2.2.2 j s' l' q0 hj q2 q3 q4 q5
  · have : j = k := by omega
    subst this
    rw [h3] at q5
    obtain ⟨rfl, rfl⟩ := key_inj hok h2 h1 q3 q2 q5
    exact hc
theorem cpR_take {D : GDt} (hok : GOK D) {f bh : Int → Int} {r n k v z s l : Int} (h : cpR D f bh r n k v z) (h1 : inS s l) (h2 : alw D s l) (h3 : f k = key D s l) (hn : ab (l - r) ≤ n) (hb : 0 ≤ cst D bh s l) (hc : min 1000000000 (cst D bh s l) < v ∨ (min 1000000000 (cst D bh s l) = v ∧ key D s l < z)) : cpR D f bh r n (k + 1) (min 1000000000 (cst D bh s l)) (key D s l) := by
  refine ⟨by omega, Or.inr ⟨s, l, h1, h2, rfl⟩, Or.inr ⟨s, l, h1, h2, hn, rfl, rfl⟩, fun j s' l' q0 q1 q2 q3 q4 q5 => ?_⟩
  by_cases hj : j < k
  · have := h.2.2.2 j s' l' q0 hj q2 q3 q4 q5
    omega
  · have : j = k := by omega
    subst this
    rw [h3] at q5
    obtain ⟨rfl, rfl⟩ := key_inj hok h2 h1 q3 q2 q5
    omega
theorem cpR_end {D : GDt} {μ : Mu} (hK : GK D μ) {bh : Int → Int} {r n v z : Int} (hb : ∀ r, -60 ≤ r → r ≤ 60 → 0 ≤ bh r ∧ bh r ≤ 1000000000) (hf : FE D bh 1000000000 r n) (h : cpR D (μ 12) bh r n (μ 6 11) v z) : z = chF D bh r n := by
  refine isCh_u (D := D) (bh := bh) (r := r) (n := n) ?_ (chF_is hK.2 hb hf)
  obtain ⟨h1, h2, h3, h4⟩ := h
  have key4 : ∀ s l, inS s l → alw D s l → ab (l - r) ≤ n → (v < min 1000000000 (cst D bh s l) ∨ (v = min 1000000000 (cst D bh s l) ∧ z ≤ key D s l)) := by
    intro s l a b c
    obtain ⟨j, q, e⟩ := hK.1.2.2.1 s l a b trivial
    exact h4 j s l q.1 q.2 a b c e
  obtain ⟨s0, l0, c1, c2, c3, c4⟩ := hf
  have h5 := key4 s0 l0 c1 c2 c3
  rcases h3 with ⟨q, _⟩ | ⟨s, l, a1, a2, a3, a4, a5⟩
  · omega
  · refine ⟨s, l, a1, a2, a3, a4, fun s' l' b1 b2 b3 => ?_⟩
    have h6 := key4 s' l' b1 b2 b3
    omega
/-- the right height that a key tells -/
def rtK (D : GDt) (z : Int) : Int := way D 0 * (z % 128 - 60)
/-- the key chosen for the group before g -/
def chI (DD : Int → GDt) (n ng : Int) (g : Int) : Int := itr (fun j z => chF (DD j) (bhI 1000000000 DD n ng (j + 1)) (if j = 0 then 0 else rtK (DD (j - 1)) z) (if j = 0 then 121 else n)) 9223372036854775807 g
def chR (DD : Int → GDt) (n ng : Int) (g : Int) : Int := if g = 0 then 0 else rtK (DD (g - 1)) (chI DD n ng g)
theorem chI_s {DD : Int → GDt} {n ng g : Int} (h : 0 ≤ g) : chI DD n ng (g + 1) = chF (DD g) (bhI 1000000000 DD n ng (g + 1)) (chR DD n ng g) (if g = 0 then 121 else n) := itr_succ h
theorem chR_s {DD : Int → GDt} {n ng g : Int} (h : 0 ≤ g) : chR DD n ng (g + 1) = rtK (DD g) (chI DD n ng (g + 1)) := by
  unfold chR
  rw [if_neg (by omega), show g + 1 - 1 = g by omega]
/-- on the way it can be -/
def fsb (DD : Int → GDt) (n ng g : Int) : Prop := (-60 ≤ chR DD n ng g ∧ chR DD n ng g ≤ 60) ∧ (g < ng → FE (DD g) (bhI 1000000000 DD n ng (g + 1)) 1000000000 (chR DD n ng g) (if g = 0 then 121 else n))
theorem fsb_0 {DD : Int → GDt} {n ng : Int} (hdd : DDok DD ng) (h : smT 1000000000 DD n ng < 1000000000) : fsb DD n ng 0 := by
  refine ⟨by unfold chR; rw [if_pos rfl]; omega, fun hg => ?_⟩
  have hok := hdd 0 (by omega) hg
  unfold smT at h
  rw [if_pos hg] at h
  rcases (tgA_is (B := 1000000000) (n := n) (ng := ng) hok).2.2 with q | ⟨l, s, a, b, c⟩
  · omega
  · refine ⟨s, l, a, b, ?_, by unfold cst; omega⟩
    have h1 : -60 ≤ l ∧ l ≤ 60 := a.1.1
    unfold chR ab
    rw [if_pos rfl, if_pos rfl]
    omega
theorem fsb_ch {DD : Int → GDt} {n ng g : Int} (hdd : DDok DD ng) (hg : 0 ≤ g ∧ g < ng) (h : fsb DD n ng g) : isCh (DD g) (bhI 1000000000 DD n ng (g + 1)) (chR DD n ng g) (if g = 0 then 121 else n) (chI DD n ng (g + 1)) := by
  rw [chI_s hg.1]
  exact chF_is (hdd g hg.1 hg.2) (fun r _ _ => bhI_b (by decide) hdd (by omega) r) (h.2 hg.2)
theorem fsb_s {DD : Int → GDt} {n ng g : Int} (hdd : DDok DD ng) (hg : 0 ≤ g ∧ g < ng) (h : fsb DD n ng g) : fsb DD n ng (g + 1) := by
  have hok := hdd g hg.1 hg.2
  obtain ⟨s, l, a1, a2, a3, a4, a5⟩ := fsb_ch hdd hg h
  have hr : chR DD n ng (g + 1) = l + s := by
    rw [chR_s hg.1, a4]
    exact key_rr hok a2 a1
  have h6 : -60 ≤ l + s ∧ l + s ≤ 60 := a1.1.2
  refine ⟨by rw [hr]; exact h6, fun hg2 => ?_⟩
  rw [hr, if_neg (by omega)]
  obtain ⟨s', l', b1, b2, b3, b4⟩ := h.2 hg.2
  have h7 := a5 s' l' b1 b2 b3
  have h8 := ugl_r hok a2 a1.2
  have h9 : bhI 1000000000 DD n ng (g + 1) (l + s) < 1000000000 := by unfold cst at h7 b4; omega
  rcases (bhI_is (B := 1000000000) (n := n) hg2 (hdd (g + 1) (by omega) hg2) (l + s)).2.2 with q | ⟨l2, q1, s2, q2, q3, q4⟩
  · omega
  · exact ⟨s2, l2, q2, q3, q1, by unfold cst; omega⟩
theorem cpR_eqz {D : GDt} {f bh : Int → Int} {r n k v z z' : Int} (e : z' = z) (h : cpR D f bh r n k v z) : cpR D f bh r n k v z' := by subst e; exact h
theorem fillr2 {μ : Mu} {o i v a : Int} {f : Int → Int} (h : ∀ j : Int, a ≤ j → j < a + i → μ o j = f j) (hv : v = f (a + i)) : ∀ j : Int, a ≤ j → j < a + (i + 1) → am_up μ o (a + i) v o j = f j := by
  intro j h1 h2
  by_cases hj : j = a + i
  · rw [hj, am_up_at, hv]
  · rw [am_up_nk hj]
    exact h j h1 (by omega)
theorem wgh_s {μ3 : Mu} {B : Int} {DD : Int → GDt} {n ng g i : Int} (hB : ∀ g2, g < g2 → g2 ≤ ng → ∀ r, -60 ≤ r → r ≤ 60 → μ3 17 (g2 * 121 + r + 60) = bhI B DD n ng g2 r)
    (hf : ∀ j : Int, g * 121 ≤ j → j < g * 121 + i → μ3 17 j = bhI B DD n ng g (j - g * 121 - 60)) (hi : 121 ≤ i) : ∀ g2, g - 1 < g2 → g2 ≤ ng → ∀ r, -60 ≤ r → r ≤ 60 → μ3 17 (g2 * 121 + r + 60) = bhI B DD n ng g2 r := by
  intro g2 h1 h2 r h3 h4
  by_cases hg : g2 = g
  · subst hg
    rw [hf _ (by omega) (by omega), show g2 * 121 + r + 60 - g2 * 121 - 60 = r by omega]
  · exact hB g2 (by omega) h2 r h3 h4
theorem smT_fin {DD : Int → GDt} {n ng : Int} (h : 0 < ng → tgA 1000000000 DD n ng 0 < 1000000000) : smT 1000000000 DD n ng < 1000000000 := by
  unfold smT
  split
  · exact h (by assumption)
  · decide
