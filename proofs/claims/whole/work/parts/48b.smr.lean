/-! ===== SMOOTH, as the reference finds it: another bound; rows by heights ===== -/
theorem mn_two {D : GDt} (hok : GOK D) {bE bB : Int → Int} {K vE vB : Int} {N : Int → Prop} (hK : 0 ≤ K ∧ K ≤ 400000)
    (hb : ∀ r, -60 ≤ r → r ≤ 60 → (bE r = 536870912 ∧ bB r = 1000000000) ∨ (bE r = bB r ∧ 0 ≤ bE r ∧ bE r ≤ K))
    (hE : isMn 536870912 (fun x => ∃ l, N l ∧ csP D bE l x) vE) (hB : isMn 1000000000 (fun x => ∃ l, N l ∧ csP D bB l x) vB) : (vE = 536870912 ∧ vB = 1000000000) ∨ (vE = vB ∧ vE ≤ K + 5880) := by
  have hfin : ∀ l s, N l → inS s l → alw D s l → bE (l + s) = bB (l + s) → bE (l + s) ≤ K → vE ≤ 5880 + K ∧ vE ≤ ugl D s l + bE (l + s) ∧ vB ≤ ugl D s l + bB (l + s) := by
    intro l s a b c d e
    have h1 := hE.2.1 _ ⟨l, a, s, b, c, rfl⟩
    have h2 := hB.2.1 _ ⟨l, a, s, b, c, rfl⟩
    have h3 := ugl_r hok c b.2
    exact ⟨by omega, h1, h2⟩
  by_cases hv : vE = 536870912
  · refine Or.inl ⟨hv, ?_⟩
    rcases hB.2.2 with e | ⟨l, a, s, b, c, e⟩
    · exact e
    · have h3 := ugl_r hok c b.2
      rcases hb (l + s) b.1.2.1 b.1.2.2 with q | q
      · have := hB.1; omega
      · have := hfin l s a b c q.1 q.2.2; omega
  · have hv1 := hE.1
    rcases hE.2.2 with e | ⟨l, a, s, b, c, e⟩
    · exact absurd e hv
    · have h3 := ugl_r hok c b.2
      rcases hb (l + s) b.1.2.1 b.1.2.2 with q | q
      · omega
      · have h4 := hfin l s a b c q.1 q.2.2
        refine Or.inr ⟨?_, by omega⟩
        rcases hB.2.2 with e2 | ⟨l2, a2, s2, b2, c2, e2⟩
        · omega
        · have h5 := ugl_r hok c2 b2.2
          rcases hb (l2 + s2) b2.1.2.1 b2.1.2.2 with q2 | q2
          · omega
          · have h6 := hfin l2 s2 a2 b2 c2 q2.1 q2.2.2
            omega
theorem bh_two {DD : Int → GDt} {n ng : Int} (hdd : DDok DD ng) (hn : ng ≤ 32) : ∀ (k : Nat) (g : Int), 0 ≤ g → (ng - g).toNat = k → ∀ r, (bhI 536870912 DD n ng g r = 536870912 ∧ bhI 1000000000 DD n ng g r = 1000000000) ∨ (bhI 536870912 DD n ng g r = bhI 1000000000 DD n ng g r ∧ 0 ≤ bhI 536870912 DD n ng g r ∧ bhI 536870912 DD n ng g r ≤ 5880 * (k : Int)) := by
  intro k
  induction k with
  | zero =>
    intro g h0 h1 r
    rw [bhI_end (by omega), bhI_end (by omega)]
    omega
  | succ k ih =>
    intro g h0 h1 r
    have hok := hdd g h0 (by omega)
    have h2 := ih (g + 1) (by omega) (by omega)
    have h3 := bhI_b (B := 536870912) (n := n) (g := g) (by omega) hdd h0 r
    have h4 := mn_two (N := fun l => ab (l - r) ≤ n) hok (K := 5880 * (k : Int)) (by omega) (fun r2 _ _ => h2 r2) (bhI_is (by omega) hok r) (bhI_is (by omega) hok r)
    omega
theorem bh_t {DD : Int → GDt} {n ng g : Int} (hdd : DDok DD ng) (hn : ng ≤ 32) (hg : 0 ≤ g) (r : Int) : (bhI 536870912 DD n ng g r = 536870912 ∧ bhI 1000000000 DD n ng g r = 1000000000) ∨ (bhI 536870912 DD n ng g r = bhI 1000000000 DD n ng g r ∧ 0 ≤ bhI 536870912 DD n ng g r ∧ bhI 536870912 DD n ng g r ≤ 188160) := by
  have := bh_two (n := n) hdd hn (ng - g).toNat g hg rfl r
  omega
theorem smT_t {DD : Int → GDt} {n ng : Int} (hdd : DDok DD ng) (hn : 0 ≤ ng ∧ ng ≤ 32) : (smT 536870912 DD n ng = 536870912 ∧ smT 1000000000 DD n ng = 1000000000) ∨ (smT 536870912 DD n ng = smT 1000000000 DD n ng ∧ 0 ≤ smT 536870912 DD n ng ∧ smT 536870912 DD n ng ≤ 200000) := by
  unfold smT
  by_cases h : 0 < ng
  · rw [if_pos h, if_pos h]
    have hok := hdd 0 (by omega) h
    have h1 := isMn_cg (P' := fun x => ∃ l, True ∧ csP (DD 0) (bhI 536870912 DD n ng (0 + 1)) l x) (tgA_is (B := 536870912) (n := n) (ng := ng) hok) (fun x => ⟨fun ⟨l, q⟩ => ⟨l, trivial, q⟩, fun ⟨l, _, q⟩ => ⟨l, q⟩⟩)
    have h2 := isMn_cg (P' := fun x => ∃ l, True ∧ csP (DD 0) (bhI 1000000000 DD n ng (0 + 1)) l x) (tgA_is (B := 1000000000) (n := n) (ng := ng) hok) (fun x => ⟨fun ⟨l, q⟩ => ⟨l, trivial, q⟩, fun ⟨l, _, q⟩ => ⟨l, q⟩⟩)
    have h3 := mn_two hok (K := 188160) (by omega) (fun r2 _ _ => bh_t hdd hn.2 (by omega) r2) h1 h2
    have h4 := tgA_b (B := 536870912) (n := n) (by omega) hdd ⟨show (0 : Int) ≤ 0 by omega, h⟩
    omega
  · rw [if_neg h, if_neg h]; omega
/-- the least on, as the reference asks for it -/
def lsO (DD : Int → GDt) (n ng g h m : Int) : Int := if g = ng then 0 else mnL 536870912 (nrL (DD g) (bhI 536870912 DD n ng (g + 1)) h m)
theorem lsO_is {DD : Int → GDt} {n ng g h m : Int} (hg : ¬ g = ng) (hok : GOK (DD g)) : isMn 536870912 (nrP (DD g) (bhI 536870912 DD n ng (g + 1)) h m) (lsO DD n ng g h m) := by
  unfold lsO
  rw [if_neg hg]
  exact isMn_cg (mnL_is 536870912 _) (fun x => nrL_mem hok _ _ _ x)
theorem lsO_bh {DD : Int → GDt} {n ng g h : Int} (hg : g ≤ ng) : lsO DD n ng g h n = bhI 536870912 DD n ng g h := by
  unfold lsO
  by_cases e : g = ng
  · rw [if_pos e, bhI_end (by omega)]
  · rw [if_neg e, bhI_go (by omega)]
theorem nr_ca {D : GDt} {bh : Int → Int} {r m x : Int} (h : ∀ l, -60 ≤ l → l ≤ 60 → ab (l - r) ≤ m) : nrP D bh r m x ↔ caP D bh x :=
  ⟨fun ⟨l, _, q⟩ => ⟨l, q⟩, fun ⟨l, q⟩ => ⟨l, by obtain ⟨s, a, _⟩ := q; exact h l a.1.1.1 a.1.1.2, q⟩⟩
theorem ab_120 (l : Int) (h1 : -60 ≤ l) (h2 : l ≤ 60) : ab (l - 0) ≤ 120 := by unfold ab; split <;> omega
theorem lsO_0 {DD : Int → GDt} {n ng : Int} (hdd : DDok DD ng) (hn : 0 ≤ ng) : lsO DD n ng 0 0 120 = smT 536870912 DD n ng := by
  unfold smT
  by_cases h : 0 < ng
  · rw [if_pos h]
    have hok := hdd 0 (by omega) h
    exact isMn_u (isMn_cg (lsO_is (by omega) hok) (fun x => nr_ca ab_120)) (tgA_is hok)
  · rw [if_neg h]
    unfold lsO
    rw [if_pos (by omega)]
theorem cs_nn {D : GDt} (hok : GOK D) {bh : Int → Int} (hb : ∀ r, -60 ≤ r → r ≤ 60 → 0 ≤ bh r) {l x : Int} (h : csP D bh l x) : 0 ≤ x := by
  obtain ⟨s, a, b, rfl⟩ := h
  have h1 := ugl_r hok b a.2
  have h2 := hb (l + s) a.1.2.1 a.1.2.2
  omega
theorem lsO_r (DD : Int → GDt) (n ng g h m : Int) (hdd : DDok DD ng) (hg : 0 ≤ g ∧ g ≤ ng) : 0 ≤ lsO DD n ng g h m ∧ lsO DD n ng g h m ≤ 536870912 := by
  by_cases e : g = ng
  · unfold lsO; rw [if_pos e]; omega
  · have hok := hdd g hg.1 (by omega)
    refine isMn_nn (by omega) (lsO_is e hok) ?_
    rintro x ⟨l, _, q⟩
    exact cs_nn hok (fun r _ _ => (bhI_b (by omega) hdd (by omega) r).1) q
/-- the rows of the groups from g on -/
def ON (DD : Int → GDt) (n ng g : Int) (f : Int → Int) : Prop := ∀ g', g ≤ g' → g' < ng → ∀ l, -60 ≤ l → l ≤ 60 → isMn 536870912 (csP (DD g') (bhI 536870912 DD n ng (g' + 1)) l) (f (121 * g' + l + 60))
theorem ON_0 {DD : Int → GDt} {n ng g : Int} {f : Int → Int} (h : ng ≤ g) : ON DD n ng g f := fun g' h1 h2 => by omega
theorem ON_r {DD : Int → GDt} {n ng g g' l : Int} {f : Int → Int} (hdd : DDok DD ng) (h : ON DD n ng g f) (hg : 0 ≤ g) (h1 : g ≤ g' ∧ g' < ng) (h2 : -60 ≤ l ∧ l ≤ 60) : 0 ≤ f (121 * g' + l + 60) ∧ f (121 * g' + l + 60) ≤ 536870912 :=
  isMn_nn (by omega) (h g' h1.1 h1.2 l h2.1 h2.2) (fun _ q => cs_nn (hdd g' (by omega) h1.2) (fun r _ _ => (bhI_b (by omega) hdd (by omega) r).1) q)
theorem ON_cg {DD : Int → GDt} {n ng g : Int} {f f' : Int → Int} (h : ON DD n ng g f) (e : ∀ a, 121 * g ≤ a → f' a = f a) : ON DD n ng g f' := fun g' h1 h2 l h3 h4 => by
  rw [e _ (by omega)]
  exact h g' h1 h2 l h3 h4
/-- the least of the heights below i that are near -/
def lnE (D : GDt) (bh : Int → Int) (h m i v : Int) : Prop := isMn 536870912 (fun x => ∃ l, (-60 ≤ l ∧ l < i) ∧ ab (l - h) ≤ m ∧ csP D bh l x) v
theorem lnE_0 {D : GDt} {bh : Int → Int} {h m : Int} : lnE D bh h m (-60) 536870912 := isMn_0 (fun x ⟨l, q, _⟩ => by omega)
theorem lnE_far {D : GDt} {bh : Int → Int} {h m i v : Int} (hv : lnE D bh h m i v) (hf : m < ab (i - h)) : lnE D bh h m (i + 1) v :=
  isMn_cg hv (fun x => ⟨fun ⟨l, a, b⟩ => ⟨l, by omega, b⟩, fun ⟨l, a, b, c⟩ => ⟨l, by
    by_cases e : l = i
    · rw [e] at b; omega
    · omega, b, c⟩⟩)
theorem lnE_s {D : GDt} {bh : Int → Int} {h m i v y v' : Int} (hv : lnE D bh h m i v) (hi : -60 ≤ i) (hf : ab (i - h) ≤ m) (hy : isMn 536870912 (csP D bh i) y) (e : v' = min v y) : lnE D bh h m (i + 1) v' := by
  subst e
  refine isMn_or hv hy (fun x => ?_)
  constructor
  · rintro ⟨l, a, b, c⟩
    by_cases e : l = i
    · subst e; exact Or.inr c
    · exact Or.inl ⟨l, by omega, b, c⟩
  · rintro (⟨l, a, b, c⟩ | c)
    · exact ⟨l, by omega, b, c⟩
    · exact ⟨i, by omega, hf, c⟩
theorem lnE_r {D : GDt} (hok : GOK D) {bh : Int → Int} (hb : ∀ r, -60 ≤ r → r ≤ 60 → 0 ≤ bh r) {h m i v : Int} (hv : lnE D bh h m i v) : 0 ≤ v ∧ v ≤ 536870912 := isMn_nn (by omega) hv (fun _ ⟨_, _, _, q⟩ => cs_nn hok hb q)
theorem lnE_end {DD : Int → GDt} {n ng g h m v : Int} (hok : GOK (DD g)) (hg : ¬ g = ng) (hv : lnE (DD g) (bhI 536870912 DD n ng (g + 1)) h m 61 v) : v = lsO DD n ng g h m := by
  refine isMn_u (isMn_cg hv (fun x => ?_)) (lsO_is hg hok)
  constructor
  · rintro ⟨l, _, b, c⟩; exact ⟨l, b, c⟩
  · rintro ⟨l, b, c⟩
    refine ⟨l, ?_, b, c⟩
    obtain ⟨s, a, _⟩ := c
    have := a.1.1
    omega
/-- one row, of the first k settings -/
def ckE (D : GDt) (bh : Int → Int) (k l x : Int) : Prop := ∃ j, (0 ≤ j ∧ j < k) ∧ (sq D j).1 = l ∧ x = squ D j + bh (sq D j).2
def blE (D : GDt) (bh : Int → Int) (k g : Int) (f : Int → Int) : Prop := ∀ l, -60 ≤ l → l ≤ 60 → isMn 536870912 (ckE D bh k l) (f (121 * g + l + 60))
theorem blE_0 {D : GDt} {bh : Int → Int} {g : Int} {f : Int → Int} (h : ∀ j, 0 ≤ j → j < 121 → f (121 * g + j) = 536870912) : blE D bh 0 g f := fun l h1 h2 => by
  have := h (l + 60) (by omega) (by omega)
  rw [show 121 * g + (l + 60) = 121 * g + l + 60 by omega] at this
  rw [this]
  exact isMn_0 (fun x ⟨j, q, _⟩ => by omega)
theorem blE_s {D : GDt} {bh : Int → Int} {k g y : Int} {μ : Mu} (h : blE D bh k g (μ 71)) (hk : 0 ≤ k) (hy : y = min (μ 71 (121 * g + (sq D k).1 + 60)) (squ D k + bh (sq D k).2)) : blE D bh (k + 1) g (am_up μ 71 (121 * g + (sq D k).1 + 60) y 71) := by
  intro l h1 h2
  by_cases e : l = (sq D k).1
  · rw [e] at h1 h2 ⊢
    rw [am_up_at, hy]
    refine isMn_s (h _ h1 h2) (fun x => ?_)
    constructor
    · rintro ⟨j, a, b, c⟩
      by_cases e : j = k
      · subst e; exact Or.inr c
      · exact Or.inl ⟨j, by omega, b, c⟩
    · rintro (⟨j, a, b, c⟩ | c)
      · exact ⟨j, by omega, b, c⟩
      · exact ⟨k, by omega, rfl, c⟩
  · rw [am_up_nk (by omega)]
    refine isMn_cg (h l h1 h2) (fun x => ?_)
    constructor
    · rintro ⟨j, a, b, c⟩; exact ⟨j, by omega, b, c⟩
    · rintro ⟨j, a, b, c⟩
      by_cases e2 : j = k
      · subst e2; exact absurd b.symm e
      · exact ⟨j, by omega, b, c⟩
theorem ck_cs {D : GDt} (hok : GOK D) {bh : Int → Int} {l x : Int} : ckE D bh (nS D) l x ↔ csP D bh l x := by
  have hn := hok.n
  constructor
  · rintro ⟨j, a, b, c⟩
    have h1 := sq_in hok a
    rw [b] at h1
    refine ⟨(sq D j).2 - l, h1.1, h1.2, ?_⟩
    rw [c, show l + ((sq D j).2 - l) = (sq D j).2 by omega, ← b]
    rfl
  · rintro ⟨s, a, b, c⟩
    obtain ⟨j, hj, e⟩ := sq_all (D := D) (q := (l, l + s)) ((setsD_mem (by omega) _).mpr (by show inS (l + s - l) l ∧ alw D (l + s - l) l; rw [show l + s - l = s by omega]; exact ⟨a, b⟩))
    refine ⟨j, hj, by rw [e], ?_⟩
    unfold squ
    rw [e, c]
    show ugl D s l + bh (l + s) = ugl D (l + s - l) l + bh (l + s)
    rw [show l + s - l = s by omega]
theorem blE_end {DD : Int → GDt} {n ng g : Int} {f : Int → Int} (hok : GOK (DD g)) (h : blE (DD g) (bhI 536870912 DD n ng (g + 1)) (nS (DD g)) g f) (ho : ON DD n ng (g + 1) f) : ON DD n ng g f := fun g' h1 h2 l h3 h4 => by
  by_cases e : g' = g
  · subst e
    exact isMn_cg (h l h3 h4) (fun x => ck_cs hok)
  · exact ho g' (by omega) h2 l h3 h4
theorem blE_r {D : GDt} (hok : GOK D) {bh : Int → Int} (hb : ∀ r, -60 ≤ r → r ≤ 60 → 0 ≤ bh r) {k g l : Int} {f : Int → Int} (hk : k ≤ nS D) (h : blE D bh k g f) (hl : -60 ≤ l ∧ l ≤ 60) : 0 ≤ f (121 * g + l + 60) ∧ f (121 * g + l + 60) ≤ 536870912 :=
  isMn_nn (by omega) (h l hl.1 hl.2) (fun x ⟨j, a, b, c⟩ => by
    have h1 := squ_r hok (j := j) (by omega)
    have h2 := sq_r hok (j := j) (by omega)
    have h3 := hb (sq D j).2 h2.2.1.1 h2.2.1.2
    omega)
/-- the settings that go on at the least cost -/
def cdE (D : GDt) (bh : Int → Int) (r m left j : Int) : Prop := ab ((sq D j).1 - r) ≤ m ∧ squ D j + bh (sq D j).2 = left
def chQ (D : GDt) (bh : Int → Int) (r m left k b : Int) : Prop := (b = -1 ∧ ∀ j, 0 ≤ j → j < k → ¬ cdE D bh r m left j) ∨ ((0 ≤ b ∧ b < k) ∧ cdE D bh r m left b ∧ ∀ j, 0 ≤ j → j < k → cdE D bh r m left j → keyq D (sq D b) ≤ keyq D (sq D j))
theorem chQ_0 {D : GDt} {bh : Int → Int} {r m left : Int} : chQ D bh r m left 0 (-1) := Or.inl ⟨rfl, fun j h1 h2 => by omega⟩
theorem chQ_no {D : GDt} {bh : Int → Int} {r m left k b : Int} (h : chQ D bh r m left k b) (hc : ¬ cdE D bh r m left k) : chQ D bh r m left (k + 1) b := by
  rcases h with ⟨h1, h2⟩ | ⟨h1, h2, h3⟩
  · refine Or.inl ⟨h1, fun j a c => ?_⟩
    by_cases e : j = k
    · rw [e]; exact hc
    · exact h2 j a (by omega)
  · refine Or.inr ⟨by omega, h2, fun j a c d => ?_⟩
    by_cases e : j = k
    · rw [e] at d; exact absurd d hc
    · exact h3 j a (by omega) d
theorem chQ_keep {D : GDt} {bh : Int → Int} {r m left k b : Int} (h : chQ D bh r m left k b) (hb : ¬ b = -1) (hc : keyq D (sq D b) ≤ keyq D (sq D k)) : chQ D bh r m left (k + 1) b := by
  rcases h with ⟨h1, h2⟩ | ⟨h1, h2, h3⟩
  · exact absurd h1 hb
  · refine Or.inr ⟨by omega, h2, fun j a c d => ?_⟩
    by_cases e : j = k
    · rw [e]; exact hc
    · exact h3 j a (by omega) d
theorem chQ_take {D : GDt} {bh : Int → Int} {r m left k b : Int} (h : chQ D bh r m left k b) (hk : 0 ≤ k) (hd : cdE D bh r m left k) (hc : b = -1 ∨ keyq D (sq D k) ≤ keyq D (sq D b)) : chQ D bh r m left (k + 1) k := by
  refine Or.inr ⟨by omega, hd, fun j a c d => ?_⟩
  by_cases e : j = k
  · rw [e]; exact Int.le_refl _
  · rcases h with ⟨h1, h2⟩ | ⟨h1, h2, h3⟩
    · exact absurd d (h2 j a (by omega))
    · have := h3 j a (by omega) d
      omega
theorem ch_two {D : GDt} (hok : GOK D) {bE bB : Int → Int} {r m left z b : Int} (hb : ∀ r, -60 ≤ r → r ≤ 60 → (bE r = 536870912 ∧ bB r = 1000000000) ∨ (bE r = bB r ∧ 0 ≤ bE r ∧ bE r ≤ 188160)) (hl : isMn 536870912 (nrP D bE r m) left) (hlt : left < 536870912) (hz : isCh D bB r m z) (hq : chQ D bE r m left (nS D) b) :
    (0 ≤ b ∧ b < nS D) ∧ keyq D (sq D b) = z ∧ squ D b + bE (sq D b).2 = left := by
  have hn := hok.n
  have hfind : ∀ s l, inS s l → alw D s l → ∃ i, (0 ≤ i ∧ i < nS D) ∧ sq D i = (l, l + s) := fun s l a c => sq_all ((setsD_mem (by omega) _).mpr (by show inS (l + s - l) l ∧ alw D (l + s - l) l; rw [show l + s - l = s by omega]; exact ⟨a, c⟩))
  have hsu : ∀ s l i, sq D i = (l, l + s) → squ D i = ugl D s l ∧ keyq D (sq D i) = key D s l := by
    intro s l i e
    unfold squ keyq
    rw [e]
    show ugl D (l + s - l) l = _ ∧ key D (l + s - l) l = _
    rw [show l + s - l = s by omega]
    exact ⟨rfl, rfl⟩
  rcases hq with ⟨q1, q2⟩ | ⟨q1, q2, q3⟩
  · exfalso
    rcases hl.2.2 with e | ⟨l, a, s, c, d, e⟩
    · omega
    · obtain ⟨i, hi, ei⟩ := hfind s l c d
      refine q2 i hi.1 hi.2 ⟨by rw [ei]; exact a, ?_⟩
      rw [(hsu s l i ei).1, ei]
      exact e.symm
  · refine ⟨q1, ?_, q2.2⟩
    have hin := sq_in hok q1
    have hsr := sq_r hok q1
    refine isCh_u ⟨(sq D b).2 - (sq D b).1, (sq D b).1, hin.1, hin.2, q2.1, rfl, fun s' l' a c d => ?_⟩ hz
    have hx := hl.2.1 _ ⟨l', d, s', a, c, rfl⟩
    have hu := squ_r hok q1
    have hu' := ugl_r hok c a.2
    have hbb := hb (sq D b).2 hsr.2.1.1 hsr.2.1.2
    have hbb' := hb (l' + s') a.1.2.1 a.1.2.2
    have ec : cst D bB ((sq D b).2 - (sq D b).1) (sq D b).1 = squ D b + bB (sq D b).2 := by
      unfold cst squ
      rw [show (sq D b).1 + ((sq D b).2 - (sq D b).1) = (sq D b).2 by omega]
    have ec' : cst D bB s' l' = ugl D s' l' + bB (l' + s') := rfl
    rw [ec, ec']
    have h2 := q2.2
    by_cases he : ugl D s' l' + bE (l' + s') = left
    · obtain ⟨i, hi, ei⟩ := hfind s' l' a c
      have h4 := hsu s' l' i ei
      have h3 := q3 i hi.1 hi.2 ⟨by rw [ei]; exact d, by rw [h4.1, ei]; exact he⟩
      rw [h4.2] at h3
      unfold keyq at h3
      omega
    · omega
/-- the state of the choice of SMOOTH settings before group g -/
def SMR (DD : Int → GDt) (n ng g : Int) (f h : Int → Int) : Prop := ∀ j, 0 ≤ j → j < g → ∃ i, (0 ≤ i ∧ i < nS (DD j)) ∧ sq (DD j) i = (f j, h j) ∧ keyq (DD j) (sq (DD j) i) = chI DD n ng (j + 1)
def SMI (DD : Int → GDt) (n ng g left : Int) (h : Int → Int) : Prop := (0 ≤ left ∧ left < 536870912) ∧ (g < ng → isMn 536870912 (nrP (DD g) (bhI 536870912 DD n ng (g + 1)) (chR DD n ng g) (if g = 0 then 121 else n)) left) ∧ (0 < g → chR DD n ng g = h (g - 1))
theorem SMI_0 {DD : Int → GDt} {n ng left : Int} {h : Int → Int} (hdd : DDok DD ng) (hs : smT 536870912 DD n ng < 536870912) (hn : 0 ≤ ng ∧ ng ≤ 32) (hl : left = smT 536870912 DD n ng) : SMI DD n ng 0 left h := by
  have h1 := smT_t (n := n) hdd hn
  refine ⟨by omega, fun h2 => ?_, fun h2 => by omega⟩
  have hok := hdd 0 (by omega) h2
  rw [hl]
  unfold smT
  rw [if_pos h2, if_pos rfl]
  exact isMn_cg (tgA_is hok) (fun x => (nr_ca (fun l a b => by unfold chR; rw [if_pos rfl]; have := ab_120 l a b; omega)).symm)
theorem pr_eta (q : SLt) : q = (q.1, q.2) := rfl
theorem SMR_s {DD : Int → GDt} {n ng g i : Int} {f h f' h' : Int → Int} (hs : SMR DD n ng g f h) (hg : 0 ≤ g) (hi : 0 ≤ i ∧ i < nS (DD g)) (hk : keyq (DD g) (sq (DD g) i) = chI DD n ng (g + 1)) (ef : ∀ j, f' j = if j = g then (sq (DD g) i).1 else f j) (eh : ∀ j, h' j = if j = g then (sq (DD g) i).2 else h j) : SMR DD n ng (g + 1) f' h' := by
  intro j h1 h2
  rw [ef, eh]
  by_cases e : j = g
  · subst e
    rw [if_pos rfl, if_pos rfl]
    exact ⟨i, hi, pr_eta _, hk⟩
  · rw [if_neg e, if_neg e]
    exact hs j h1 (by omega)
theorem SMI_s {DD : Int → GDt} {n ng g left left' i : Int} {h h' : Int → Int} (hdd : DDok DD ng) (hg : 0 ≤ g ∧ g < ng) (hs : SMI DD n ng g left h) (hi : 0 ≤ i ∧ i < nS (DD g)) (hk : keyq (DD g) (sq (DD g) i) = chI DD n ng (g + 1)) (hc : squ (DD g) i + bhI 536870912 DD n ng (g + 1) (sq (DD g) i).2 = left) (hl : left' = left - squ (DD g) i) (eh : h' g = (sq (DD g) i).2) : SMI DD n ng (g + 1) left' h' := by
  have hok := hdd g hg.1 hg.2
  have hin := sq_in hok hi
  have hu := squ_r hok hi
  have hb := bhI_b (B := 536870912) (n := n) (g := g + 1) (by omega) hdd (by omega) (sq (DD g) i).2
  have hr : chR DD n ng (g + 1) = (sq (DD g) i).2 := by
    rw [chR_s hg.1, ← hk]
    have := key_rr hok hin.2 hin.1
    unfold rtK keyq
    omega
  have h1 := hs.1
  refine ⟨by omega, fun h2 => ?_, fun h2 => ?_⟩
  · rw [if_neg (by omega), hr, show left' = bhI 536870912 DD n ng (g + 1) (sq (DD g) i).2 by omega]
    exact bhI_is h2 (hdd (g + 1) (by omega) h2) _
  · rw [hr, show g + 1 - 1 = g by omega, eh]
theorem chR_0 {DD : Int → GDt} {n ng : Int} : chR DD n ng 0 = 0 := by unfold chR; rw [if_pos rfl]
/-- what is told of a SMOOTH setting -/
theorem smA_i {DD : Int → GDt} {n ng g i : Int} (hok : GOK (DD g)) (hi : 0 ≤ i ∧ i < nS (DD g)) (hk : keyq (DD g) (sq (DD g) i) = chI DD n ng (g + 1)) : smA DD n ng g 0 = (sq (DD g) i).1 ∧ smA DD n ng g 1 = (sq (DD g) i).2 ∧ smA DD n ng g 2 = squ (DD g) i ∧ smA DD n ng g 3 = rkI (DD g) i (nS (DD g)) := by
  have hin := sq_in hok hi
  have e1 := key_l hok hin.2 hin.1
  have e2 := key_rr hok hin.2 hin.1
  have e3 := key_ug hok hin.2 hin.1
  unfold keyq at hk
  refine ⟨?_, ?_, ?_, ?_⟩
  · unfold smA; rw [if_pos rfl, ← hk]; exact e1
  · unfold smA; rw [if_neg (by omega), if_pos rfl, ← hk]; unfold rtK; omega
  · unfold smA; rw [if_neg (by omega), if_neg (by omega), if_pos rfl, ← hk]; exact e3
  · unfold smA; rw [if_neg (by omega), if_neg (by omega), if_neg (by omega), rkI_eq, ← hk]; rfl
theorem chI_g {DD : Int → GDt} {n ng g : Int} (hdd : DDok DD ng) (h : smT 1000000000 DD n ng < 1000000000) (hg : 0 ≤ g ∧ g < ng) : isCh (DD g) (bhI 1000000000 DD n ng (g + 1)) (chR DD n ng g) (if g = 0 then 121 else n) (chI DD n ng (g + 1)) := by
  have h1 := chI_all hdd h g.toNat (by omega)
  rw [show ((g.toNat : Nat) : Int) = g by omega] at h1
  exact h1
theorem up_if {μ : Mu} {o k v j : Int} : am_up μ o k v o j = if j = k then v else μ o j := by unfold am_up; rw [if_pos rfl]
