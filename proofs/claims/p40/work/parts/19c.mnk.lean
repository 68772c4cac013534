/-! ===== The best key as a number; least numbers ===== -/
def isMn (B : Int) (P : Int → Prop) (v : Int) : Prop := v ≤ B ∧ (∀ x, P x → v ≤ x) ∧ (v = B ∨ P v)
theorem isMn_u {B v v' : Int} {P : Int → Prop} (h : isMn B P v) (h' : isMn B P v') : v = v' := by
  obtain ⟨a1, a2, a3⟩ := h
  obtain ⟨b1, b2, b3⟩ := h'
  rcases a3 with rfl | a3
  · rcases b3 with rfl | b3
    · rfl
    · have := a2 _ b3; omega
  · rcases b3 with rfl | b3
    · have := b2 _ a3; omega
    · have := a2 _ b3
      have := b2 _ a3
      omega
theorem isMn_cg {B v : Int} {P P' : Int → Prop} (h : isMn B P v) (e : ∀ x, P x ↔ P' x) : isMn B P' v :=
  ⟨h.1, fun x q => h.2.1 x ((e x).mpr q), h.2.2.imp id (fun q => (e v).mp q)⟩
theorem isMn_0 {B : Int} {P : Int → Prop} (h : ∀ x, ¬ P x) : isMn B P B := ⟨Int.le_refl _, fun x q => absurd q (h x), Or.inl rfl⟩
/-- one number more -/
theorem isMn_s {B v y : Int} {P P' : Int → Prop} (h : isMn B P v) (e : ∀ x, P' x ↔ (P x ∨ x = y)) : isMn B P' (min v y) := by
  obtain ⟨h1, h2, h3⟩ := h
  refine ⟨by omega, fun x q => ?_, ?_⟩
  · rcases (e x).mp q with q | q
    · have := h2 x q; omega
    · omega
  · by_cases hc : v ≤ y
    · rw [Int.min_eq_left hc]
      exact h3.imp id (fun q => (e v).mpr (Or.inl q))
    · rw [Int.min_eq_right (by omega)]
      exact Or.inr ((e y).mpr (Or.inr rfl))
/-- the least of two -/
theorem isMn_or {B v w : Int} {P P1 P2 : Int → Prop} (h : isMn B P1 v) (h' : isMn B P2 w) (e : ∀ x, P x ↔ (P1 x ∨ P2 x)) : isMn B P (min v w) := by
  obtain ⟨h1, h2, h3⟩ := h
  obtain ⟨g1, g2, g3⟩ := h'
  refine ⟨by omega, fun x q => ?_, ?_⟩
  · rcases (e x).mp q with q | q
    · have := h2 x q; omega
    · have := g2 x q; omega
  · by_cases hc : v ≤ w
    · rw [Int.min_eq_left hc]
      exact h3.imp id (fun q => (e v).mpr (Or.inl q))
    · rw [Int.min_eq_right (by omega)]
      exact g3.imp id (fun q => (e w).mpr (Or.inr q))
/-- what is more than the bound may be cut -/
theorem isMn_clip {B v : Int} {P : Int → Prop} (h : isMn B (fun x => ∃ y, P y ∧ x = min B y) v) : isMn B P v := by
  obtain ⟨h1, h2, h3⟩ := h
  refine ⟨h1, fun x q => ?_, ?_⟩
  · have := h2 _ ⟨x, q, rfl⟩
    omega
  · rcases h3 with h3 | ⟨y, q, e⟩
    · exact Or.inl h3
    · by_cases hc : y ≤ B
      · rw [Int.min_eq_right hc] at e
        rw [e]
        exact Or.inr q
      · left; omega
def mnL (B : Int) : List Int → Int
  | [] => B
  | x :: xs => min (mnL B xs) x
theorem mnL_is (B : Int) (L : List Int) : isMn B (fun x => x ∈ L) (mnL B L) := by
  induction L with
  | nil => exact isMn_0 (fun x h => by cases h)
  | cons y ys ih => exact isMn_s ih (fun x => by rw [List.mem_cons]; exact ⟨fun h => h.symm, fun h => h.symm⟩)
def mnK (D : GDt) : Int := mnL 9223372036854775807 (kl D)
theorem mnK_is {D : GDt} (h : GOK D) : isMn 9223372036854775807 (fun x => ∃ s l, inS s l ∧ alw D s l ∧ x = key D s l) (mnK D) := isMn_cg (mnL_is 9223372036854775807 (kl D)) (fun x => kl_mem h x)
theorem bstK_mn {D : GDt} {z : Int} (h : GOK D) (hz : bstK D z) : z = mnK D := by
  refine isMn_u (B := 9223372036854775807) (P := fun x => ∃ s l, inS s l ∧ alw D s l ∧ x = key D s l) ⟨?_, ?_, hz.1⟩ (mnK_is h)
  · have := isK_r h hz.1
    omega
  · rintro x ⟨s, l, h1, h2, rfl⟩
    exact hz.2 s l h1 h2
def bL (D : GDt) : Int := way D 0 * (mnK D / 128 % 128 - 60)
def bR (D : GDt) : Int := way D 0 * (mnK D % 128 - 60)
def bU (D : GDt) : Int := mnK D / 4398046511104
theorem mnK_w {D : GDt} (h : GOK D) (hn : ¬ mnK D = 9223372036854775807) : inS (bR D - bL D) (bL D) ∧ alw D (bR D - bL D) (bL D) ∧ mnK D = key D (bR D - bL D) (bL D) ∧ bU D = ugl D (bR D - bL D) (bL D) := by
  rcases (mnK_is h).2.2 with q | ⟨s, l, h1, h2, h3⟩
  · exact absurd q hn
  · have e1 : bL D = l := by unfold bL; rw [h3]; exact key_l h h2 h1
    have e2 : bR D = l + s := by unfold bR; rw [h3]; exact key_rr h h2 h1
    have e3 : bR D - bL D = s := by omega
    rw [e3, e1]
    refine ⟨h1, h2, h3, ?_⟩
    unfold bU
    rw [h3]
    exact key_ug h h2 h1
theorem mnK_r {D : GDt} (h : GOK D) : 0 ≤ mnK D ∧ mnK D ≤ 9223372036854775807 := by
  by_cases q : mnK D = 9223372036854775807
  · rw [q]; omega
  · have h1 := mnK_w h q
    have := key_r h h1.2.1 h1.1
    omega
theorem bU_r {D : GDt} (h : GOK D) (hn : ¬ mnK D = 9223372036854775807) : 0 ≤ bU D ∧ bU D ≤ 5880 := by
  have h1 := mnK_w h hn
  rw [h1.2.2.2]
  exact ugl_r h h1.2.1 h1.1.2
/-- what best() tells -/
def ansB (D : GDt) (w : Int) : Int := if mnK D = 9223372036854775807 then -1000000 else tlv D (bR D - bL D) (bL D) w
/-! all groups together: UGLINESS, aside, worst, most, kneed -/
abbrev TSt : Type := Int × Int × Int × Int × Int
def tstep (D : GDt) (g : Int) (t : TSt) : TSt :=
  if mnK D = 9223372036854775807 then (t.1, t.2.1 + 1, t.2.2.1, t.2.2.2.1, t.2.2.2.2 + am_b (¬ klow D = 99))
  else (t.1 + bU D, t.2.1, (if t.2.2.2.1 < bU D then g else t.2.2.1), max t.2.2.2.1 (bU D), t.2.2.2.2 + am_b (¬ klow D = 99))
def tst (DD : Int → GDt) (g : Int) : TSt := itr (fun j t => tstep (DD j) j t) (0, 0, -2, -1, 0) g
theorem tst_s {DD : Int → GDt} {g : Int} (h : 0 ≤ g) : tst DD (g + 1) = tstep (DD g) g (tst DD g) := itr_succ h
def totA (t : TSt) (w : Int) : Int := if w = 0 then t.1 else if w = 1 then t.2.1 else if w = 2 then t.2.2.1 else t.2.2.2.2
def DDok (DD : Int → GDt) (ng : Int) : Prop := ∀ g, 0 ≤ g → g < ng → GOK (DD g)
theorem tst_r {DD : Int → GDt} {ng : Int} (h : DDok DD ng) : ∀ g, 0 ≤ g → g ≤ ng → (0 ≤ (tst DD g).1 ∧ (tst DD g).1 ≤ 5880 * g) ∧ (0 ≤ (tst DD g).2.1 ∧ (tst DD g).2.1 ≤ g) ∧ (-2 ≤ (tst DD g).2.2.1 ∧ (tst DD g).2.2.1 < g) ∧ (-1 ≤ (tst DD g).2.2.2.1 ∧ (tst DD g).2.2.2.1 ≤ 5880) ∧ (0 ≤ (tst DD g).2.2.2.2 ∧ (tst DD g).2.2.2.2 ≤ g) := by
  refine itr_indn (g := fun j t => tstep (DD j) j t) (a := (0, 0, -2, -1, 0)) (fun g (t : TSt) => (0 ≤ t.1 ∧ t.1 ≤ 5880 * g) ∧ (0 ≤ t.2.1 ∧ t.2.1 ≤ g) ∧ (-2 ≤ t.2.2.1 ∧ t.2.2.1 < g) ∧ (-1 ≤ t.2.2.2.1 ∧ t.2.2.2.1 ≤ 5880) ∧ (0 ≤ t.2.2.2.2 ∧ t.2.2.2.2 ≤ g)) (by simp) ?_
  intro g t h1 h2 h3
  have h4 := am_b_r (¬ klow (DD g) = 99)
  unfold tstep
  by_cases q : mnK (DD g) = 9223372036854775807
  · rw [if_pos q]
    dsimp only
    omega
  · rw [if_neg q]
    have h5 := bU_r (h g h1 h2) q
    dsimp only
    omega
theorem tstep_no {D : GDt} {g : Int} {t : TSt} (h : mnK D = 9223372036854775807) : tstep D g t = (t.1, t.2.1 + 1, t.2.2.1, t.2.2.2.1, t.2.2.2.2 + am_b (¬ klow D = 99)) := if_pos h
theorem tstep_ya {D : GDt} {g : Int} {t : TSt} (h : ¬ mnK D = 9223372036854775807) : tstep D g t = (t.1 + bU D, t.2.1, (if t.2.2.2.1 < bU D then g else t.2.2.1), max t.2.2.2.1 (bU D), t.2.2.2.2 + am_b (¬ klow D = 99)) := if_neg h
theorem LDA.dd {μ : Mu} {p q kn : Int} (hI : PI μ p) (hG : PG μ p) (h : LDA μ p q kn) : DDok (ddt μ p q kn) (μ p 14) := fun g h1 h2 => gdt_ok hI hG (h g h1 h2)
