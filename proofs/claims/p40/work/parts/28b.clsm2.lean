theorem len_h (D : GDt) (s l a : Int) : way D a * (l * spn D + s * dX D a - 2 * dH D a * spn D) = len D s l a := by
  unfold len bas
  rcases way_r D a with q | q <;> rw [q] <;> simp only [Int.one_mul, Int.neg_mul] <;> omega
theorem len_f (D : GDt) (s l a : Int) (hs : inS s l) (ha : 0 ≤ a ∧ a < dN D) (hok : GOK D) : -261360 ≤ len D s l a ∧ len D s l a ≤ 261360 := len_r hok ha hs.2 (by have := hs.1.1; omega)
theorem gdN_r : ∀ (m : Nat) (x y : Int), 0 ≤ x → 0 ≤ y → 0 ≤ gdN m x y ∧ gdN m x y ≤ max x y := by
  intro m
  induction m with
  | zero => intro x y h1 h2; unfold gdN; omega
  | succ m ih =>
    intro x y h1 h2
    unfold gdN
    split
    · omega
    · have h3 := Int.emod_nonneg x (show y ≠ 0 by omega)
      have h4 := Int.emod_lt_of_pos x (show 0 < y by omega)
      have := ih y (x % y) h2 h3
      omega
theorem gdS_f (a b : Int) (ha : 0 ≤ a) (hb : 0 ≤ b) : 0 ≤ gdS 0 a b ∧ gdS 0 a b ≤ max a b := gdN_r _ a b ha hb
/-- what ranked() tells -/
def rnkP (D : GDt) (P : Prop) (k w z : Int) : Prop := ((P ∧ 0 ≤ k ∧ k < cnD D ∧ 0 ≤ w ∧ w ≤ 5) ∧ ∃ s l, inS s l ∧ alw D s l ∧ rkD D (key D s l) = k ∧ z = tlv D s l w) ∨ (¬ (P ∧ 0 ≤ k ∧ k < cnD D ∧ 0 ≤ w ∧ w ≤ 5) ∧ z = -1000000)
theorem rnkP_no {D : GDt} {P : Prop} {k w : Int} (h : ¬ (P ∧ 0 ≤ k ∧ 0 ≤ w ∧ w ≤ 5)) : rnkP D P k w (-1000000) := Or.inr ⟨fun q => h ⟨q.1, q.2.1, q.2.2.2⟩, rfl⟩
theorem rnkP_out {D : GDt} {P : Prop} {k w c : Int} (hc : c = cnD D) (h : c ≤ k) : rnkP D P k w (-1000000) := Or.inr ⟨fun q => by have := q.2.2.1; omega, rfl⟩
theorem rnkP_in {D : GDt} {P : Prop} {k w s l z : Int} (h : P ∧ 0 ≤ k ∧ k < cnD D ∧ 0 ≤ w ∧ w ≤ 5) (h1 : inS s l) (h2 : alw D s l) (h3 : rkD D (key D s l) = k) (hz : z = tlv D s l w) : rnkP D P k w z := Or.inl ⟨h, s, l, h1, h2, h3, hz⟩
theorem ifT {C : Prop} [Decidable C] {z a b : Int} (h : C) (e : z = a) : z = if C then a else b := by rw [if_pos h]; exact e
theorem ifF {C : Prop} [Decidable C] {z a b : Int} (h : ¬ C) (e : z = b) : z = if C then a else b := by rw [if_neg h]; exact e
theorem ifA {P Q : Prop} [Decidable P] [Decidable Q] {a b : Int} (h : P) : (if Q then a else b) = if P ∧ Q then a else b := by
  by_cases q : Q
  · rw [if_pos q, if_pos ⟨h, q⟩]
  · rw [if_neg q, if_neg (fun w => q w.2)]
/-- what touch() tells -/
def tchA (D : GDt) (e k : Int) : Int := if mnK D = 9223372036854775807 then -2 else if -9 ≤ (if e = 0 then bL D else bR D) - way D (if e = 0 then 0 else dN D - 1) * 3 * k ∧ (if e = 0 then bL D else bR D) - way D (if e = 0 then 0 else dN D - 1) * 3 * k ≤ 9 then ((if e = 0 then bL D else bR D) - way D (if e = 0 then 0 else dN D - 1) * 3 * k) % 4 else -3
def bmA (μ : Mu) (p i w : Int) : Int := if w = 0 then bml μ p i else if w = 1 then bmr μ p i else if w = 2 then (if sgl μ p i then stb μ p i else 0) else (if sgl μ p i then 0 else stb μ p i)
def shF (μ : Mu) (p t j : Int) : Int := if μ (p + 4) j = 0 then 0 else μ (p + 5) j + t
def shI (μ : Mu) (p t i : Int) : Bool := itr (fun j b => b && decide (-12 ≤ shF μ p t j ∧ shF μ p t j ≤ 12)) true i
def shB (μ : Mu) (p t : Int) : Bool := shI μ p t (μ p 7)
theorem shI_iff {μ : Mu} {p t i : Int} (h : 0 ≤ i) : shI μ p t i = true ↔ ∀ j, 0 ≤ j → j < i → -12 ≤ shF μ p t j ∧ shF μ p t j ≤ 12 := by
  refine itr_ind (fun i b => b = true ↔ ∀ j, 0 ≤ j → j < i → -12 ≤ shF μ p t j ∧ shF μ p t j ≤ 12) ⟨fun _ j h1 h2 => by omega, fun _ => rfl⟩ ?_ i h
  intro i x h1 h2
  rw [Bool.and_eq_true, decide_eq_true_iff, h2]
  constructor
  · rintro ⟨q1, q2⟩ j h3 h4
    by_cases hj : j = i
    · subst hj; exact q2
    · exact q1 j h3 (by omega)
  · intro q
    exact ⟨fun j h3 h4 => q j h3 (by omega), q i h1 (by omega)⟩
theorem tst_cg {DD DD' : Int → GDt} {ng : Int} (h : ∀ g, 0 ≤ g → g < ng → DD g = DD' g) : tst DD ng = tst DD' ng := itr_cg (fun g t h1 h2 => by rw [h g h1 h2])
/-- the tried positions as a function -/
theorem dd_try {μ μ1 : Mu} {p kn g : Int} {hf : Int → Int} (hC : CJ μ p) (e : ∀ o : Int, p ≤ o ∧ o ≤ p + 10 → μ1 o = μ o) (hg : 0 ≤ g ∧ g < μ p 14) (hh : ∀ i, 0 ≤ i → i < μ p 7 → μ (p + 4) i = 1 → μ1 19 i = hf i) : ddt μ1 p 19 kn g = ddF μ p hf kn g := by
  have h1 := hC.pg.fl hg
  unfold ddt ddF gdt
  rw [e (p + 9) (by omega), e (p + 10) (by omega)]
  refine gdtF_cg e (fun i h2 h3 => hh i (by omega) (by omega) ?_)
  exact (hC.pg.of hg ⟨h2, h3⟩).2.1
theorem shF_1 {μ : Mu} {p t i : Int} (h : μ (p + 4) i = 1) : shF μ p t i = μ (p + 5) i + t := by unfold shF; rw [if_neg (by omega)]
/-- what would be, all so much higher -/
def ddS (μ : Mu) (p t : Int) : Int → GDt := ddF μ p (fun j => μ (p + 5) j + t) (μ p 3)
theorem shI_s {μ : Mu} {p t i : Int} (h : 0 ≤ i) : shI μ p t (i + 1) = (shI μ p t i && decide (-12 ≤ shF μ p t i ∧ shF μ p t i ≤ 12)) := itr_succ h
theorem shI_no {μ : Mu} {p t i : Int} (h : 0 ≤ i ∧ i < μ p 7) (hq : ¬ (-12 ≤ shF μ p t i ∧ shF μ p t i ≤ 12)) : ¬ shB μ p t = true := by
  intro q
  exact hq ((shI_iff (by omega)).mp q i h.1 h.2)
theorem shI_go {μ : Mu} {p t i : Int} (h : 0 ≤ i) (hI : shI μ p t i = true) (hq : -12 ≤ shF μ p t i ∧ shF μ p t i ≤ 12) : shI μ p t (i + 1) = true := by
  rw [shI_s h, hI, decide_eq_true hq]
  rfl
/-- the best level setting -/
def lvK (D : GDt) : Int := mnL 9223372036854775807 (((setsD D).filter (fun q => decide (q.2 - q.1 = 0))).map (keyq D))
theorem lvK_is {D : GDt} (h : GOK D) : isMn 9223372036854775807 (fun x => ∃ l, inS 0 l ∧ alw D 0 l ∧ x = key D 0 l) (lvK D) := by
  have hn := h.n
  refine isMn_cg (mnL_is _ _) (fun x => ?_)
  rw [List.mem_map]
  constructor
  · rintro ⟨q, h1, h2⟩
    rw [List.mem_filter, decide_eq_true_iff] at h1
    have h3 := (setsD_mem (D := D) (by omega) q).mp h1.1
    rw [h1.2] at h3
    exact ⟨q.1, h3.1, h3.2, by rw [← h2]; unfold keyq; rw [h1.2]⟩
  · rintro ⟨l, h1, h2, rfl⟩
    refine ⟨(l, l), ?_, ?_⟩
    · rw [List.mem_filter, decide_eq_true_iff]
      refine ⟨(setsD_mem (D := D) (by omega) _).mpr ?_, by show l - l = 0; omega⟩
      show inS (l - l) l ∧ alw D (l - l) l
      rw [show l - l = 0 by omega]
      exact ⟨h1, h2⟩
    · show key D (l - l) l = _
      rw [show l - l = 0 by omega]
theorem lvK_eq {D : GDt} {z : Int} (h : GOK D) (h1 : isK D z) (h2 : ∀ l, inS 0 l → alw D 0 l → z ≤ key D 0 l) (h3 : slK D 0 9223372036854775807 z) : z = lvK D := by
  refine isMn_u (B := 9223372036854775807) (P := fun x => ∃ l, inS 0 l ∧ alw D 0 l ∧ x = key D 0 l) ⟨(isK_r h h1).2, ?_, h3⟩ (lvK_is h)
  rintro x ⟨l, q1, q2, rfl⟩
  exact h2 l q1 q2
def lvL (D : GDt) : Int := way D 0 * (lvK D / 128 % 128 - 60)
def lvU (D : GDt) : Int := lvK D / 4398046511104
theorem lvK_w {D : GDt} (h : GOK D) (hn : ¬ lvK D = 9223372036854775807) : inS 0 (lvL D) ∧ alw D 0 (lvL D) ∧ lvK D = key D 0 (lvL D) ∧ lvU D = ugl D 0 (lvL D) ∧ ¬ mnK D = 9223372036854775807 := by
  rcases (lvK_is h).2.2 with q | ⟨l, h1, h2, h3⟩
  · exact absurd q hn
  · have e1 : lvL D = l := by unfold lvL; rw [h3]; exact key_l h h2 h1
    rw [e1]
    refine ⟨h1, h2, h3, ?_, ?_⟩
    · unfold lvU; rw [h3]; exact key_ug h h2 h1
    · intro q
      have h4 := (mnK_is h).2.1 _ ⟨0, l, h1, h2, rfl⟩
      have h5 := key_r h h2 h1
      omega
def lvA (D : GDt) (w : Int) : Int := if lvK D = 9223372036854775807 then -1000000 else if w = 0 then lvL D else if w = 1 then lvU D else lvU D - bU D
theorem mnK_r2 {D : GDt} (h : GOK D) (hn : ¬ mnK D = 9223372036854775807) : (-60 ≤ bL D ∧ bL D ≤ 60) ∧ (-60 ≤ bR D ∧ bR D ≤ 60) ∧ (0 ≤ bU D ∧ bU D ≤ 5880) := by
  have h1 := mnK_w h hn
  have h2 := h1.1.1
  unfold inL at h2
  exact ⟨by omega, by omega, bU_r h hn⟩
theorem wk3_r (D : GDt) (i k : Int) (hk : 0 ≤ k ∧ k ≤ 3) : -9 ≤ way D i * 3 * k ∧ way D i * 3 * k ≤ 9 := by
  rcases way_r D i with q | q <;> rw [q] <;> omega
def mirA (D D' : GDt) : Int := if mnK D = 9223372036854775807 then -2 else if mnK D' = 9223372036854775807 then -2 else if bL D' = -bL D ∧ bR D' = -bR D then 1 else 0
def uglG (μ : Mu) (p : Int) : Int → Int → GDt := fun f m => gdt μ p (p + 5) f m (μ p 3)
theorem try_lda {μ μ1 : Mu} {p t kn : Int} (hC : CJ μ p) (hC1 : CJ μ1 p) (e : ∀ o : Int, p ≤ o ∧ o ≤ p + 10 → μ1 o = μ o) (hk : 4 ≤ kn ∧ kn ≤ 24) (hb : shB μ p t = true) (hq : ∀ i, 0 ≤ i → i < μ p 7 → μ1 19 i = shF μ p t i) : LDA μ1 p 19 kn := by
  intro g h1 h2
  refine hC1.ldq ⟨h1, h2⟩ hk (fun i h3 h4 => ?_)
  have h5 := hC1.pg.fl ⟨h1, h2⟩
  rw [e p (by omega)] at h5
  rw [hq i (by omega) (by omega)]
  exact (shI_iff hC.i.sz.1).mp hb i (by omega) (by omega)
theorem try_tst {μ μ1 : Mu} {p t : Int} (hC : CJ μ p) (e : ∀ o : Int, p ≤ o ∧ o ≤ p + 10 → μ1 o = μ o) (hq : ∀ i, 0 ≤ i → i < μ p 7 → μ1 19 i = shF μ p t i) : tst (ddt μ1 p 19 (μ p 3)) (μ1 p 14) = tst (ddS μ p t) (μ p 14) := by
  rw [e p (by omega)]
  refine tst_cg (fun g h1 h2 => ?_)
  exact dd_try hC e ⟨h1, h2⟩ (fun i h3 h4 h5 => by rw [hq i h3 h4, shF_1 h5])
def wor (μ : Mu) (p t : Int) : Int := (tst (ddS μ p t) (μ p 14)).2.1 * 4294967296 + (tst (ddS μ p t) (μ p 14)).1
/-- the best shift among the first steps -/
def shQ (μ : Mu) (p s f le : Int) : Prop := (le = 9223372036854775807 ∧ ∀ s', 0 ≤ s' → s' < s → ¬ shB μ p (ow s') = true) ∨
  ∃ s0, (0 ≤ s0 ∧ s0 < s) ∧ shB μ p (ow s0) = true ∧ f = ow s0 ∧ le = wor μ p (ow s0) ∧ ∀ s', 0 ≤ s' → s' < s → shB μ p (ow s') = true → (wor μ p (ow s0) < wor μ p (ow s') ∨ (wor μ p (ow s0) = wor μ p (ow s') ∧ s0 ≤ s'))
def shR (μ : Mu) (p z : Int) : Prop := ∃ s0, (0 ≤ s0 ∧ s0 < 25) ∧ shB μ p (ow s0) = true ∧ z = ow s0 ∧ ∀ s', 0 ≤ s' → s' < 25 → shB μ p (ow s') = true → (wor μ p (ow s0) < wor μ p (ow s') ∨ (wor μ p (ow s0) = wor μ p (ow s') ∧ s0 ≤ s'))
theorem shR_u {μ : Mu} {p z z' : Int} (h : shR μ p z) (h' : shR μ p z') : z = z' := by
  obtain ⟨s, a1, a2, rfl, a4⟩ := h
  obtain ⟨s', b1, b2, rfl, b4⟩ := h'
  have h1 := a4 s' b1.1 b1.2 b2
  have h2 := b4 s a1.1 a1.2 a2
  have : s = s' := by omega
  rw [this]
theorem shQ_0 {μ : Mu} {p f : Int} : shQ μ p 0 f 9223372036854775807 := Or.inl ⟨rfl, fun s' h1 h2 => by omega⟩
theorem shQ_no {μ : Mu} {p s f le : Int} (h : shQ μ p s f le) (hb : ¬ shB μ p (ow s) = true) : shQ μ p (s + 1) f le := by
  rcases h with ⟨h1, h2⟩ | ⟨s0, a1, a2, a3, a4, a5⟩
  · refine Or.inl ⟨h1, fun s' q1 q2 => ?_⟩
    by_cases e : s' = s
    · rw [e]; exact hb
    · exact h2 s' q1 (by omega)
  · refine Or.inr ⟨s0, by omega, a2, a3, a4, fun s' q1 q2 q3 => ?_⟩
    by_cases e : s' = s
    · rw [e] at q3; exact absurd q3 hb
    · exact a5 s' q1 (by omega) q3
theorem shQ_keep {μ : Mu} {p s f le : Int} (h : shQ μ p s f le) (hs : 0 ≤ s) (hw : wor μ p (ow s) < 9223372036854775807) (hc : le ≤ wor μ p (ow s)) : shQ μ p (s + 1) f le := by
  rcases h with ⟨h1, h2⟩ | ⟨s0, a1, a2, a3, a4, a5⟩
  · omega
  · refine Or.inr ⟨s0, by omega, a2, a3, a4, fun s' q1 q2 q3 => ?_⟩
    by_cases e : s' = s
    · subst e; omega
    · exact a5 s' q1 (by omega) q3
theorem shQ_take {μ : Mu} {p s f le : Int} (h : shQ μ p s f le) (hs : 0 ≤ s) (hb : shB μ p (ow s) = true) (hc : wor μ p (ow s) < le) : shQ μ p (s + 1) (ow s) (wor μ p (ow s)) := by
  refine Or.inr ⟨s, by omega, hb, rfl, rfl, fun s' q1 q2 q3 => ?_⟩
  by_cases e : s' = s
  · subst e; omega
  · rcases h with ⟨h1, h2⟩ | ⟨s0, a1, a2, a3, a4, a5⟩
    · exact absurd q3 (h2 s' q1 (by omega))
    · have := a5 s' q1 (by omega) q3
      omega
theorem shB_0 {μ : Mu} {p : Int} (hC : CJ μ p) : shB μ p 0 = true := by
  refine (shI_iff hC.i.sz.1).mpr (fun j h1 h2 => ?_)
  have h3 := hC.i.hd (q := p + 5) (i := j) rfl ⟨h1, h2⟩
  unfold shF
  split <;> omega
theorem shQ_end {μ : Mu} {p f le : Int} (hC : CJ μ p) (h : shQ μ p 25 f le) : shR μ p f := by
  rcases h with ⟨h1, h2⟩ | ⟨s0, a1, a2, a3, a4, a5⟩
  · exact absurd (shB_0 hC) (h2 0 (by omega) (by omega))
  · exact ⟨s0, a1, a2, a3, a5⟩
theorem ddS_ok {μ : Mu} {p t : Int} (hC : CJ μ p) (hb : shB μ p t = true) : DDok (ddS μ p t) (μ p 14) := by
  intro g h1 h2
  have h5 := hC.pg.fl ⟨h1, h2⟩
  have h6 := gdt_ok hC.i hC.pg (hC.ld5 ⟨h1, h2⟩ hC.kn)
  refine ⟨h6.1, h6.2.1, h6.2.2.1, h6.2.2.2.1, fun i q1 q2 => ⟨?_, (h6.2.2.2.2 i q1 q2).2⟩⟩
  change i < μ (p + 10) g at q2
  show -12 ≤ tr (μ (p + 10) g) (fun i => μ (p + 5) (μ (p + 9) g + i) + t) i ∧ tr (μ (p + 10) g) (fun i => μ (p + 5) (μ (p + 9) g + i) + t) i ≤ 12
  rw [tr_at ⟨q1, q2⟩, ← shF_1 (hC.pg.of ⟨h1, h2⟩ ⟨by omega, by omega⟩).2.1]
  exact (shI_iff hC.i.sz.1).mp hb _ (by omega) (by omega)
theorem wor_r {μ : Mu} {p t : Int} (hC : CJ μ p) (hb : shB μ p t = true) : ((0 ≤ (tst (ddS μ p t) (μ p 14)).1 ∧ (tst (ddS μ p t) (μ p 14)).1 ≤ 188160) ∧ (0 ≤ (tst (ddS μ p t) (μ p 14)).2.1 ∧ (tst (ddS μ p t) (μ p 14)).2.1 ≤ 32)) ∧ (0 ≤ wor μ p t ∧ wor μ p t < 9223372036854775807) := by
  have h1 := hC.pg.gr
  have h2 := tst_r (ddS_ok hC hb) (μ p 14) h1.1 (by omega)
  unfold wor
  omega
/-- a group in which one note is elsewhere -/
def ddP (μ : Mu) (p i q : Int) : GDt := ddF μ p (fun j => if j = i then q else μ (p + 5) j) (μ p 3) (μ (p + 8) i)
theorem ddP_ok {μ : Mu} {p i q : Int} (hC : CJ μ p) (hi : 0 ≤ i ∧ i < μ p 7 ∧ 0 ≤ μ (p + 8) i) (hq : -12 ≤ q ∧ q ≤ 12) : GOK (ddP μ p i q) := by
  have hg := hC.pg.go ⟨hi.1, hi.2.1⟩
  have h1 : 0 ≤ μ (p + 8) i ∧ μ (p + 8) i < μ p 14 := ⟨hi.2.2, hg.2⟩
  have h5 := hC.pg.fl h1
  have h6 := gdt_ok hC.i hC.pg (hC.ld5 h1 hC.kn)
  refine ⟨h6.1, h6.2.1, h6.2.2.1, h6.2.2.2.1, fun a q1 q2 => ⟨?_, (h6.2.2.2.2 a q1 q2).2⟩⟩
  change a < μ (p + 10) (μ (p + 8) i) at q2
  show -12 ≤ tr (μ (p + 10) (μ (p + 8) i)) (fun a => if μ (p + 9) (μ (p + 8) i) + a = i then q else μ (p + 5) (μ (p + 9) (μ (p + 8) i) + a)) a ∧ tr (μ (p + 10) (μ (p + 8) i)) (fun a => if μ (p + 9) (μ (p + 8) i) + a = i then q else μ (p + 5) (μ (p + 9) (μ (p + 8) i) + a)) a ≤ 12
  rw [tr_at ⟨q1, q2⟩]
  have h7 := hC.i.hd (q := p + 5) (i := μ (p + 9) (μ (p + 8) i) + a) rfl (by omega)
  split <;> omega
theorem ddP_try {μ μ1 : Mu} {p i q : Int} (hC : CJ μ p) (e : ∀ o : Int, p ≤ o ∧ o ≤ p + 10 → μ1 o = μ o) (hi : 0 ≤ i ∧ i < μ p 7 ∧ 0 ≤ μ (p + 8) i) (h1 : μ1 19 i = q) (h2 : ∀ j, 0 ≤ j → j < μ p 7 → ¬ j = i → μ (p + 4) j = 1 → μ1 19 j = μ (p + 5) j) : ddt μ1 p 19 (μ p 3) (μ (p + 8) i) = ddP μ p i q := by
  have hg := hC.pg.go ⟨hi.1, hi.2.1⟩
  refine dd_try hC e ⟨hi.2.2, hg.2⟩ (fun j h3 h4 h5 => ?_)
  by_cases hj : j = i
  · rw [if_pos hj, hj, h1]
  · rw [if_neg hj]; exact h2 j h3 h4 hj h5
/-- the wish among the first steps -/
def wok (μ : Mu) (p i s : Int) : Prop := (-12 ≤ μ (p + 5) i + ow s ∧ μ (p + 5) i + ow s ≤ 12) ∧ ¬ mnK (ddP μ p i (μ (p + 5) i + ow s)) = 9223372036854775807
def wug (μ : Mu) (p i s : Int) : Int := bU (ddP μ p i (μ (p + 5) i + ow s))
def wiQ (μ : Mu) (p i s w le : Int) : Prop := (le = 2147483647 ∧ w = -1000000 ∧ ∀ s', 0 ≤ s' → s' < s → ¬ wok μ p i s') ∨
  ∃ s0, (0 ≤ s0 ∧ s0 < s) ∧ wok μ p i s0 ∧ w = μ (p + 5) i + ow s0 ∧ le = wug μ p i s0 ∧ ∀ s', 0 ≤ s' → s' < s → wok μ p i s' → (wug μ p i s0 < wug μ p i s' ∨ (wug μ p i s0 = wug μ p i s' ∧ s0 ≤ s'))
def wiR (μ : Mu) (p i z : Int) : Prop := ∃ le, wiQ μ p i 50 z le
theorem wiR_u {μ : Mu} {p i z z' : Int} (h : wiR μ p i z) (h' : wiR μ p i z') : z = z' := by
  obtain ⟨_, ⟨_, h1, h2⟩ | ⟨s, a1, a2, a3, a4, a5⟩⟩ := h
  · obtain ⟨_, ⟨_, g1, g2⟩ | ⟨s', b1, b2, b3, b4, b5⟩⟩ := h'
    · rw [h1, g1]
    · exact absurd b2 (h2 s' b1.1 b1.2)
  · obtain ⟨_, ⟨_, g1, g2⟩ | ⟨s', b1, b2, b3, b4, b5⟩⟩ := h'
    · exact absurd a2 (g2 s a1.1 a1.2)
    · have h1 := a5 s' b1.1 b1.2 b2
      have h2 := b5 s a1.1 a1.2 a2
      have : s = s' := by omega
      rw [a3, b3, this]
theorem wiQ_0 {μ : Mu} {p i : Int} : wiQ μ p i 0 (-1000000) 2147483647 := Or.inl ⟨rfl, rfl, fun s' h1 h2 => by omega⟩
theorem wiQ_no {μ : Mu} {p i s w le : Int} (h : wiQ μ p i s w le) (hb : ¬ wok μ p i s) : wiQ μ p i (s + 1) w le := by
  rcases h with ⟨h0, h1, h2⟩ | ⟨s0, a1, a2, a3, a4, a5⟩
  · refine Or.inl ⟨h0, h1, fun s' q1 q2 => ?_⟩
    by_cases e : s' = s
    · rw [e]; exact hb
    · exact h2 s' q1 (by omega)
  · refine Or.inr ⟨s0, by omega, a2, a3, a4, fun s' q1 q2 q3 => ?_⟩
    by_cases e : s' = s
    · rw [e] at q3; exact absurd q3 hb
    · exact a5 s' q1 (by omega) q3
theorem wiQ_keep {μ : Mu} {p i s w le : Int} (h : wiQ μ p i s w le) (hs : 0 ≤ s) (hw : wug μ p i s < 2147483647) (hc : le ≤ wug μ p i s) : wiQ μ p i (s + 1) w le := by
  rcases h with ⟨h0, h1, h2⟩ | ⟨s0, a1, a2, a3, a4, a5⟩
  · omega
  · refine Or.inr ⟨s0, by omega, a2, a3, a4, fun s' q1 q2 q3 => ?_⟩
    by_cases e : s' = s
    · subst e; omega
    · exact a5 s' q1 (by omega) q3
theorem wiQ_take {μ : Mu} {p i s w le : Int} (h : wiQ μ p i s w le) (hs : 0 ≤ s) (hb : wok μ p i s) (hc : wug μ p i s < le) : wiQ μ p i (s + 1) (μ (p + 5) i + ow s) (wug μ p i s) := by
  refine Or.inr ⟨s, by omega, hb, rfl, rfl, fun s' q1 q2 q3 => ?_⟩
  by_cases e : s' = s
  · subst e; omega
  · rcases h with ⟨h0, h1, h2⟩ | ⟨s0, a1, a2, a3, a4, a5⟩
    · exact absurd q3 (h2 s' q1 (by omega))
    · have := a5 s' q1 (by omega) q3
      omega
theorem wiQ_r {μ : Mu} {p i s w le : Int} (hC : CJ μ p) (hi : 0 ≤ i ∧ i < μ p 7 ∧ 0 ≤ μ (p + 8) i) (h : wiQ μ p i s w le) : 0 ≤ le ∧ le ≤ 2147483647 := by
  rcases h with ⟨h0, h1, h2⟩ | ⟨s0, a1, a2, a3, a4, a5⟩
  · omega
  · have := bU_r (ddP_ok hC hi a2.1) a2.2
    unfold wug at a4
    omega
/-- the smooth settings' numbers -/
def smA (DD : Int → GDt) (n ng g w : Int) : Int := if w = 0 then way (DD g) 0 * (chI DD n ng (g + 1) / 128 % 128 - 60) else if w = 1 then rtK (DD g) (chI DD n ng (g + 1)) else if w = 2 then chI DD n ng (g + 1) / 4398046511104 else rkD (DD g) (chI DD n ng (g + 1))
theorem chI_all {DD : Int → GDt} {n ng : Int} (hdd : DDok DD ng) (h : smT 1000000000 DD n ng < 1000000000) : ∀ (k : Nat), (k : Int) < ng → isCh (DD k) (bhI 1000000000 DD n ng (k + 1)) (chR DD n ng k) (if (k : Int) = 0 then 121 else n) (chI DD n ng (k + 1)) := by
  have h1 : ∀ (k : Nat), (k : Int) ≤ ng → fsb DD n ng k := by
    intro k
    induction k with
    | zero => intro _; exact fsb_0 hdd h
    | succ k ih =>
      intro hk
      have := fsb_s hdd ⟨show (0 : Int) ≤ k by omega, by omega⟩ (ih (by omega))
      rw [show ((k + 1 : Nat) : Int) = (k : Int) + 1 by omega]
      exact this
  intro k hk
  exact fsb_ch hdd ⟨by omega, hk⟩ (h1 k (by omega))
theorem chI_w {DD : Int → GDt} {n ng g : Int} (hdd : DDok DD ng) (h : smT 1000000000 DD n ng < 1000000000) (hg : 0 ≤ g ∧ g < ng) : ∃ s l, inS s l ∧ alw (DD g) s l ∧ chI DD n ng (g + 1) = key (DD g) s l := by
  have h1 := chI_all hdd h g.toNat (by omega)
  rw [show ((g.toNat : Nat) : Int) = g by omega] at h1
  obtain ⟨s, l, a, b, _, d, _⟩ := h1
  exact ⟨s, l, a, b, d⟩
theorem ifA2 {A B C : Prop} [Decidable A] [Decidable B] [Decidable C] {a b : Int} (h : A ∧ B) : (if C then a else b) = if A ∧ B ∧ C then a else b := by
  by_cases q : C
  · rw [if_pos q, if_pos ⟨h.1, h.2, q⟩]
  · rw [if_neg q, if_neg (fun w => q w.2.2)]
/-- the positions turned round -/
def ddM (μ : Mu) (p g : Int) : GDt := ddF μ p (fun j => -μ (p + 5) j) (μ p 3) g
def sglA (μ : Mu) (p i w : Int) : Int := if w = 0 then (if 0 ≤ μ (p + 5) i then -1 else 1) else if w = 1 then idl (bmz μ p i) (if 0 ≤ μ (p + 5) i then -1 else 1) (μ (p + 5) i) else 2 * μ (p + 5) i + (if 0 ≤ μ (p + 5) i then -1 else 1) * idl (bmz μ p i) (if 0 ≤ μ (p + 5) i then -1 else 1) (μ (p + 5) i)
/-- how many stretches begin at a note -/
def stB (μ : Mu) (p k i : Int) : Prop := k ≤ bmr μ p i ∧ bml μ p i < k
def stN (μ : Mu) (p k f i : Int) : Int := itr (fun j a => a + if k ≤ bmr μ p (f + j) ∧ bml μ p (f + j) < k then 1 else 0) 0 i
theorem stN_s {μ : Mu} {p k f i : Int} (h : 0 ≤ i) : stN μ p k f (i + 1) = stN μ p k f i + if k ≤ bmr μ p (f + i) ∧ bml μ p (f + i) < k then 1 else 0 := itr_succ h
theorem stN_r {μ : Mu} {p k f i : Int} (h : 0 ≤ i) : 0 ≤ stN μ p k f i ∧ stN μ p k f i ≤ i :=
  itr_ind (fun i x => 0 ≤ x ∧ x ≤ i) (by simp) (fun i x h1 h2 => by split <;> omega) i h
/-- what stretch() tells: the one before which n begin; -2: there is none -/
def stP (μ : Mu) (p k f m n w z : Int) : Prop := (∃ j, (0 ≤ j ∧ j < m) ∧ (k ≤ bmr μ p (f + j) ∧ bml μ p (f + j) < k) ∧ stN μ p k f j = n ∧ z = if w = 0 then f + j else if w = 1 then ste μ p k (f + j) else μ (p + 7) (ste μ p k (f + j)) - μ (p + 7) (f + j)) ∨ (stN μ p k f m ≤ n ∧ z = -2)
theorem smA_t {DD : Int → GDt} {n ng g w s l z : Int} (hok : GOK (DD g)) (h1 : inS s l) (h2 : alw (DD g) s l) (h3 : chI DD n ng (g + 1) = key (DD g) s l) (hw : 0 ≤ w ∧ w ≤ 2) (hz : z = tlv (DD g) s l w) : z = smA DD n ng g w := by
  rw [hz]
  unfold tlv smA rtK
  rw [h3, key_l hok h2 h1, key_rr hok h2 h1, key_ug hok h2 h1]
  split
  · rfl
  · split
    · rfl
    · rw [if_pos (by omega), if_pos (by omega)]
theorem extI_s0 {D : GDt} {w i : Int} (h : 0 ≤ i) (hw : w = 0) : extI D w (i + 1) = if len D (bR D - bL D) (bL D) (i + 1) - len D (bR D - bL D) (bL D) (extI D w i) < 0 then i + 1 else extI D w i := by
  rw [extI_s h]
  simp only [if_pos hw]
theorem extI_s1 {D : GDt} {w i : Int} (h : 0 ≤ i) (hw : ¬ w = 0) : extI D w (i + 1) = if 0 < len D (bR D - bL D) (bL D) (i + 1) - len D (bR D - bL D) (bL D) (extI D w i) then i + 1 else extI D w i := by
  rw [extI_s h]
  simp only [if_neg hw]
