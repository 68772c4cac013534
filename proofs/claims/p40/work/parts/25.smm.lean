/-! ===== SMOOTH: the least from a group on; the choice ===== -/
def csP (D : GDt) (bh : Int → Int) (l x : Int) : Prop := ∃ s, inS s l ∧ alw D s l ∧ x = ugl D s l + bh (l + s)
def caP (D : GDt) (bh : Int → Int) (x : Int) : Prop := ∃ l, csP D bh l x
def nrP (D : GDt) (bh : Int → Int) (r n x : Int) : Prop := ∃ l, ab (l - r) ≤ n ∧ csP D bh l x
def uglq (D : GDt) (q : SLt) : Int := ugl D (q.2 - q.1) q.1
def nrL (D : GDt) (bh : Int → Int) (r n : Int) : List Int := ((setsD D).filter (fun q => decide (ab (q.1 - r) ≤ n))).map (fun q => uglq D q + bh q.2)
def caL (D : GDt) (bh : Int → Int) : List Int := (setsD D).map (fun q => uglq D q + bh q.2)
theorem nrL_mem {D : GDt} (h : GOK D) (bh : Int → Int) (r n x : Int) : x ∈ nrL D bh r n ↔ nrP D bh r n x := by
  have hn := h.n
  unfold nrL nrP csP
  rw [List.mem_map]
  constructor
  · rintro ⟨q, h1, h2⟩
    rw [List.mem_filter, decide_eq_true_iff] at h1
    have h3 := (setsD_mem (D := D) (by omega) q).mp h1.1
    exact ⟨q.1, h1.2, q.2 - q.1, h3.1, h3.2, by rw [← h2, show q.1 + (q.2 - q.1) = q.2 by omega]; rfl⟩
  · rintro ⟨l, h1, s, h2, h3, rfl⟩
    refine ⟨(l, l + s), ?_, ?_⟩
    · rw [List.mem_filter, decide_eq_true_iff]
      refine ⟨(setsD_mem (D := D) (by omega) _).mpr ?_, h1⟩
      show inS (l + s - l) l ∧ alw D (l + s - l) l
      rw [show l + s - l = s by omega]
      exact ⟨h2, h3⟩
    · show ugl D (l + s - l) l + bh (l + s) = _
      rw [show l + s - l = s by omega]
theorem caL_mem {D : GDt} (h : GOK D) (bh : Int → Int) (x : Int) : x ∈ caL D bh ↔ caP D bh x := by
  have hn := h.n
  unfold caL caP csP
  rw [List.mem_map]
  constructor
  · rintro ⟨q, h1, h2⟩
    have h3 := (setsD_mem (D := D) (by omega) q).mp h1
    exact ⟨q.1, q.2 - q.1, h3.1, h3.2, by rw [← h2, show q.1 + (q.2 - q.1) = q.2 by omega]; rfl⟩
  · rintro ⟨l, s, h2, h3, rfl⟩
    refine ⟨(l, l + s), (setsD_mem (D := D) (by omega) _).mpr ?_, ?_⟩
    · show inS (l + s - l) l ∧ alw D (l + s - l) l
      rw [show l + s - l = s by omega]
      exact ⟨h2, h3⟩
    · show ugl D (l + s - l) l + bh (l + s) = _
      rw [show l + s - l = s by omega]
/-- the least from the last k groups on, if the one ahead ends at r; B: it can't be -/
def bhN (B : Int) (DD : Int → GDt) (n ng : Int) : Nat → Int → Int
  | 0, _ => 0
  | k + 1, r => mnL B (nrL (DD (ng - ((k : Int) + 1))) (bhN B DD n ng k) r n)
def bhI (B : Int) (DD : Int → GDt) (n ng g : Int) : Int → Int := bhN B DD n ng (ng - g).toNat
theorem bhI_end {B : Int} {DD : Int → GDt} {n ng g : Int} (h : ng ≤ g) (r : Int) : bhI B DD n ng g r = 0 := by
  unfold bhI
  rw [show (ng - g).toNat = 0 by omega]
  rfl
theorem bhI_go {B : Int} {DD : Int → GDt} {n ng g : Int} (h : g < ng) (r : Int) : bhI B DD n ng g r = mnL B (nrL (DD g) (bhI B DD n ng (g + 1)) r n) := by
  unfold bhI
  obtain ⟨m, hm⟩ : ∃ m, (ng - g).toNat = m + 1 := ⟨(ng - g).toNat - 1, by omega⟩
  rw [hm, bhN, show (ng - (g + 1)).toNat = m by omega, show ng - ((m : Int) + 1) = g by omega]
theorem bhI_is {B : Int} {DD : Int → GDt} {n ng g : Int} (h : g < ng) (hok : GOK (DD g)) (r : Int) : isMn B (nrP (DD g) (bhI B DD n ng (g + 1)) r n) (bhI B DD n ng g r) := by
  rw [bhI_go h]
  exact isMn_cg (mnL_is B _) (fun x => nrL_mem hok _ _ _ x)
/-- all of a group, whatever is ahead -/
def tgA (B : Int) (DD : Int → GDt) (n ng g : Int) : Int := mnL B (caL (DD g) (bhI B DD n ng (g + 1)))
theorem tgA_is {B : Int} {DD : Int → GDt} {n ng g : Int} (hok : GOK (DD g)) : isMn B (caP (DD g) (bhI B DD n ng (g + 1))) (tgA B DD n ng g) :=
  isMn_cg (mnL_is B _) (fun x => caL_mem hok _ x)
def smT (B : Int) (DD : Int → GDt) (n ng : Int) : Int := if 0 < ng then tgA B DD n ng 0 else 0
theorem isMn_nn {B v : Int} {P : Int → Prop} (hB : 0 ≤ B) (h : isMn B P v) (hP : ∀ x, P x → 0 ≤ x) : 0 ≤ v ∧ v ≤ B := by
  refine ⟨?_, h.1⟩
  rcases h.2.2 with q | q
  · omega
  · exact hP v q
theorem bhI_r {B : Int} {DD : Int → GDt} {n ng : Int} (hB : 0 ≤ B) (hdd : DDok DD ng) : ∀ (k : Nat) (g : Int), 0 ≤ g → (ng - g).toNat = k → ∀ r, 0 ≤ bhI B DD n ng g r ∧ bhI B DD n ng g r ≤ B := by
  intro k
  induction k with
  | zero =>
    intro g _ h r
    rw [bhI_end (by omega)]
    omega
  | succ k ih =>
    intro g h0 h r
    have hok := hdd g h0 (by omega)
    refine isMn_nn hB (bhI_is (by omega) hok r) ?_
    rintro x ⟨l, _, s, h1, h2, rfl⟩
    have h3 := ugl_r hok h2 h1.2
    have h4 := ih (g + 1) (by omega) (by omega) (l + s)
    omega
theorem bhI_b {B : Int} {DD : Int → GDt} {n ng g : Int} (hB : 0 ≤ B) (hdd : DDok DD ng) (hg : 0 ≤ g) (r : Int) : 0 ≤ bhI B DD n ng g r ∧ bhI B DD n ng g r ≤ B := bhI_r hB hdd _ g hg rfl r
theorem tgA_b {B : Int} {DD : Int → GDt} {n ng g : Int} (hB : 0 ≤ B) (hdd : DDok DD ng) (hg : 0 ≤ g ∧ g < ng) : 0 ≤ tgA B DD n ng g ∧ tgA B DD n ng g ≤ B := by
  have hok := hdd g hg.1 hg.2
  refine isMn_nn hB (tgA_is hok) ?_
  rintro x ⟨l, s, h1, h2, rfl⟩
  have h3 := ugl_r hok h2 h1.2
  have h4 := bhI_b (n := n) (g := g + 1) hB hdd (by omega) (l + s)
  omega
/-- where one group can't be, none ahead can -/
theorem tgA_inf {B : Int} {DD : Int → GDt} {n ng : Int} (hB : 0 ≤ B) (hdd : DDok DD ng) : ∀ (k : Nat), (k : Int) < ng → tgA B DD n ng k = B → tgA B DD n ng 0 = B := by
  intro k
  induction k with
  | zero => intro _ h; exact h
  | succ k ih =>
    intro hk h
    apply ih (by omega)
    have hok := hdd k (by omega) (by omega)
    have hok2 := hdd (k + 1) (by omega) (by omega)
    have h1 := tgA_is (B := B) (n := n) (ng := ng) hok
    have h2 := tgA_is (B := B) (n := n) (ng := ng) (g := (k : Int) + 1) hok2
    have e : ((k + 1 : Nat) : Int) = (k : Int) + 1 := by omega
    rw [e] at h
    rw [h] at h2
    rcases h1.2.2 with q | ⟨l, s, q1, q2, q3⟩
    · exact q
    · have h3 := ugl_r hok q2 q1.2
      have h4 : B ≤ bhI B DD n ng ((k : Int) + 1) (l + s) := by
        rcases (bhI_is (B := B) (n := n) (by omega : (k : Int) + 1 < ng) hok2 (l + s)).2.2 with w | ⟨l2, _, w⟩
        · omega
        · exact h2.2.1 _ ⟨l2, w⟩
      have := h1.1
      omega
theorem smT_inf {B : Int} {DD : Int → GDt} {n ng g : Int} (hB : 0 ≤ B) (hdd : DDok DD ng) (hg : 0 ≤ g ∧ g < ng) (h : B ≤ tgA B DD n ng g) : smT B DD n ng = B := by
  have h1 := tgA_b (n := n) hB hdd hg
  unfold smT
  rw [if_pos (by omega)]
  have := tgA_inf (B := B) (n := n) hB hdd g.toNat (by omega)
  rw [show ((g.toNat : Nat) : Int) = g by omega] at this
  exact this (by omega)
theorem isMn_c {B v y : Int} {P P' : Int → Prop} (h : isMn B P v) (e : ∀ x, P' x ↔ (P x ∨ x = y)) : isMn B P' (min v (min B y)) := by
  have h1 := h.1
  rw [show min v (min B y) = min v y by omega]
  exact isMn_s h e
/-- of the first k keys of a row -/
def ckP (D : GDt) (f : Int → Int) (bh : Int → Int) (k l x : Int) : Prop := ∃ j s, (0 ≤ j ∧ j < k) ∧ inS s l ∧ alw D s l ∧ f j = key D s l ∧ x = ugl D s l + bh (l + s)
theorem ckP_s {D : GDt} (hok : GOK D) {f bh : Int → Int} {k l s : Int} (h0 : 0 ≤ k) (h1 : inS s l) (h2 : alw D s l) (h3 : f k = key D s l) (x : Int) : ckP D f bh (k + 1) l x ↔ (ckP D f bh k l x ∨ x = ugl D s l + bh (l + s)) := by
  constructor
  · rintro ⟨j, s', a, b, c, d, e⟩
    by_cases hj : j < k
    · exact Or.inl ⟨j, s', ⟨a.1, hj⟩, b, c, d, e⟩
    · have : j = k := by omega
      subst this
      rw [h3] at d
      obtain ⟨rfl, -⟩ := key_inj hok h2 h1 c b d
      exact Or.inr e
  · rintro (⟨j, s', a, b, c, d, e⟩ | rfl)
    · exact ⟨j, s', ⟨a.1, by omega⟩, b, c, d, e⟩
    · exact ⟨k, s, ⟨h0, by omega⟩, h1, h2, h3, rfl⟩
theorem ckP_o {D : GDt} (hok : GOK D) {f bh : Int → Int} {k l s l' : Int} (h1 : inS s l) (h2 : alw D s l) (h3 : f k = key D s l) (hl : ¬ l' = l) (x : Int) : ckP D f bh (k + 1) l' x ↔ ckP D f bh k l' x := by
  constructor
  · rintro ⟨j, s', a, b, c, d, e⟩
    by_cases hj : j < k
    · exact ⟨j, s', ⟨a.1, hj⟩, b, c, d, e⟩
    · have : j = k := by omega
      subst this
      rw [h3] at d
      exact absurd (key_inj hok h2 h1 c b d).2.symm hl
  · rintro ⟨j, s', a, b, c, d, e⟩
    exact ⟨j, s', ⟨a.1, by omega⟩, b, c, d, e⟩
theorem ckP_end {D : GDt} {μ : Mu} (hK : GK D μ) {bh : Int → Int} {l : Int} (x : Int) : ckP D (μ 12) bh (μ 6 11) l x ↔ csP D bh l x := by
  constructor
  · rintro ⟨j, s', a, b, c, d, e⟩
    exact ⟨s', b, c, e⟩
  · rintro ⟨s, b, c, e⟩
    obtain ⟨j, a, d⟩ := hK.1.2.2.1 s l b c trivial
    exact ⟨j, s, a, b, c, d, e⟩
theorem ckP_0 {D : GDt} {f bh : Int → Int} {l : Int} (x : Int) : ¬ ckP D f bh 0 l x := by
  rintro ⟨j, s', a, _⟩
  omega
def blR (D : GDt) (f : Int → Int) (bh : Int → Int) (k : Int) (g : Int → Int) : Prop := ∀ l, -60 ≤ l → l ≤ 60 → isMn 1000000000 (ckP D f bh k l) (g (l + 60))
theorem blR_0 {D : GDt} {f bh g : Int → Int} (h : ∀ j, 0 ≤ j → j < 121 → g j = 1000000000) : blR D f bh 0 g := by
  intro l h1 h2
  rw [h _ (by omega) (by omega)]
  exact isMn_0 (fun x => ckP_0 x)
theorem blR_s {D : GDt} (hok : GOK D) {f bh : Int → Int} {μ : Mu} {k l s y : Int} (h : blR D f bh k (μ 18)) (h0 : 0 ≤ k) (h1 : inS s l) (h2 : alw D s l) (h3 : f k = key D s l) (hy : y = min (μ 18 (l + 60)) (min 1000000000 (ugl D s l + bh (l + s)))) : blR D f bh (k + 1) (am_up μ 18 (l + 60) y 18) := by
  intro l' h4 h5
  by_cases hl : l' = l
  · subst hl
    rw [am_up_at, hy]
    exact isMn_c (h l' h4 h5) (fun x => ckP_s hok h0 h1 h2 h3 x)
  · rw [am_up_nk (by omega)]
    exact isMn_cg (h l' h4 h5) (fun x => (ckP_o hok h1 h2 h3 hl x).symm)
def clR (D : GDt) (f : Int → Int) (bh : Int → Int) (k v : Int) : Prop := isMn 1000000000 (fun x => ∃ l, ckP D f bh k l x) v
theorem clR_0 {D : GDt} {f bh : Int → Int} : clR D f bh 0 1000000000 := isMn_0 (fun x ⟨l, h⟩ => ckP_0 x h)
theorem clR_s {D : GDt} (hok : GOK D) {f bh : Int → Int} {k l s v : Int} (h : clR D f bh k v) (h0 : 0 ≤ k) (h1 : inS s l) (h2 : alw D s l) (h3 : f k = key D s l) : clR D f bh (k + 1) (min v (min 1000000000 (ugl D s l + bh (l + s)))) := by
  refine isMn_c h (fun x => ?_)
  constructor
  · rintro ⟨l', q⟩
    by_cases hl : l' = l
    · subst hl
      exact ((ckP_s hok h0 h1 h2 h3 x).mp q).imp (fun w => ⟨l', w⟩) id
    · exact Or.inl ⟨l', (ckP_o hok h1 h2 h3 hl x).mp q⟩
  · rintro (⟨l', q⟩ | q)
    · by_cases hl : l' = l
      · subst hl
        exact ⟨l', (ckP_s hok h0 h1 h2 h3 x).mpr (Or.inl q)⟩
      · exact ⟨l', (ckP_o hok h1 h2 h3 hl x).mpr q⟩
    · exact ⟨l, (ckP_s hok h0 h1 h2 h3 x).mpr (Or.inr q)⟩
theorem clR_end {D : GDt} {μ : Mu} (hK : GK D μ) {bh : Int → Int} {v : Int} (h : clR D (μ 12) bh (μ 6 11) v) : isMn 1000000000 (caP D bh) v :=
  isMn_cg h (fun x => ⟨fun ⟨l, q⟩ => ⟨l, (ckP_end hK x).mp q⟩, fun ⟨l, q⟩ => ⟨l, (ckP_end hK x).mpr q⟩⟩)
def blS (D : GDt) (bh : Int → Int) (g : Int → Int) : Prop := ∀ l, -60 ≤ l → l ≤ 60 → isMn 1000000000 (csP D bh l) (g (l + 60))
theorem blR_end {D : GDt} {μ : Mu} (hK : GK D μ) {bh g : Int → Int} (h : blR D (μ 12) bh (μ 6 11) g) : blS D bh g := fun l h1 h2 => isMn_cg (h l h1 h2) (fun x => ckP_end hK x)
theorem blS_r {D : GDt} (hok : GOK D) {bh g : Int → Int} (hb : ∀ r, -60 ≤ r → r ≤ 60 → 0 ≤ bh r) (h : blS D bh g) {j : Int} (hj : 0 ≤ j ∧ j ≤ 120) : 0 ≤ g j ∧ g j ≤ 1000000000 := by
  have h1 := h (j - 60) (by omega) (by omega)
  rw [show j - 60 + 60 = j by omega] at h1
  refine isMn_nn (by decide) h1 ?_
  rintro x ⟨s, q1, q2, rfl⟩
  have h2 := ugl_r hok q2 q1.2
  have h3 := hb (j - 60 + s) q1.1.2.1 q1.1.2.2
  omega
/-- near: from one height to another -/
def lnR (D : GDt) (bh : Int → Int) (lo i v : Int) : Prop := isMn 1000000000 (fun x => ∃ l, (lo ≤ l + 60 ∧ l + 60 < i) ∧ csP D bh l x) v
theorem lnR_0 {D : GDt} {bh : Int → Int} {lo : Int} : lnR D bh lo lo 1000000000 := isMn_0 (fun x ⟨l, h, _⟩ => by omega)
theorem lnR_s {D : GDt} {bh g : Int → Int} {lo i v : Int} (hb : blS D bh g) (h : lnR D bh lo i v) (hi : 0 ≤ i ∧ i ≤ 120) (hl : lo ≤ i) : lnR D bh lo (i + 1) (min v (g i)) := by
  have h1 := hb (i - 60) (by omega) (by omega)
  rw [show i - 60 + 60 = i by omega] at h1
  refine isMn_or h h1 (fun x => ?_)
  constructor
  · rintro ⟨l, q, w⟩
    by_cases hc : l + 60 < i
    · exact Or.inl ⟨l, ⟨q.1, hc⟩, w⟩
    · have : l = i - 60 := by omega
      subst this
      exact Or.inr w
  · rintro (⟨l, q, w⟩ | w)
    · exact ⟨l, by omega, w⟩
    · exact ⟨i - 60, by omega, w⟩
theorem lnR_end {D : GDt} {bh : Int → Int} {m n i v : Int} (h : lnR D bh (max 0 (m - n)) i v) (hi : i = max (max 0 (m - n)) (min 120 (m + n) + 1)) (hn : 0 ≤ n) (hm : 0 ≤ m ∧ m ≤ 120) : isMn 1000000000 (nrP D bh (m - 60) n) v := by
  refine isMn_cg h (fun x => ?_)
  constructor
  · rintro ⟨l, q, w⟩
    exact ⟨l, by unfold ab; omega, w⟩
  · rintro ⟨l, q, s, w⟩
    have h1 : -60 ≤ l ∧ l ≤ 60 := w.1.1.1
    unfold ab at q
    exact ⟨l, by omega, s, w⟩
