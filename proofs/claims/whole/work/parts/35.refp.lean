/-! ===== What the reference's cells hold of a group ===== -/
/-- slot g tells the notes from f on -/
def RGs (D : GDt) (f g : Int) (μ : Mu) : Prop := GOK D ∧ (0 ≤ f ∧ f + dN D ≤ 64 ∧ 0 ≤ g ∧ g ≤ 32) ∧ (μ 54 g = f ∧ μ 55 g = dN D ∧ μ 45 19 = dK D) ∧ ∀ i, 0 ≤ i → i < dN D → μ 52 (f + i) - μ 52 f = dX D i ∧ μ 56 (f + i) = dH D i ∧ μ 48 (f + i) = dB D i
def RW (D : GDt) (f : Int) (μ : Mu) : Prop := GOK D ∧ (0 ≤ f ∧ f + dN D ≤ 64) ∧ μ 45 21 = am_b (¬ klow D = 99) ∧ ∀ i, 0 ≤ i → i < dN D → (μ 52 (f + i) - μ 52 f = dX D i ∧ μ 56 (f + i) = dH D i ∧ μ 48 (f + i) = dB D i) ∧ μ 57 (f + i) = way D i
def RO (D : GDt) (f : Int) (μ : Mu) : Prop := RW D f μ ∧ μ 45 22 = f ∧ μ 45 23 = f + (dN D - 1) ∧ μ 45 24 = spn D
section RGss
variable {D : GDt} {f g i : Int} {μ μ1 : Mu}
theorem RGs.ok (h : RGs D f g μ) : GOK D := h.1
theorem RGs.r (h : RGs D f g μ) : 0 ≤ f ∧ f + dN D ≤ 64 ∧ 0 ≤ g ∧ g ≤ 32 := h.2.1
theorem RGs.fi (h : RGs D f g μ) : μ 54 g = f := h.2.2.1.1
theorem RGs.m (h : RGs D f g μ) : μ 55 g = dN D := h.2.2.1.2.1
theorem RGs.k (h : RGs D f g μ) : μ 45 19 = dK D := h.2.2.1.2.2
theorem RGs.x (h : RGs D f g μ) (hi : 0 ≤ i ∧ i < dN D) : μ 52 (f + i) - μ 52 f = dX D i := (h.2.2.2 i hi.1 hi.2).1
theorem RGs.h (h : RGs D f g μ) (hi : 0 ≤ i ∧ i < dN D) : μ 56 (f + i) = dH D i := (h.2.2.2 i hi.1 hi.2).2.1
theorem RGs.b (h : RGs D f g μ) (hi : 0 ≤ i ∧ i < dN D) : μ 48 (f + i) = dB D i := (h.2.2.2 i hi.1 hi.2).2.2
theorem RGs.h0 (h : RGs D f g μ) (hi : 0 < dN D) : μ 56 f = dH D 0 := by have := h.h (i := 0) (by omega); rwa [Int.add_zero] at this
theorem RGs.b0 (h : RGs D f g μ) (hi : 0 < dN D) : μ 48 f = dB D 0 := by have := h.b (i := 0) (by omega); rwa [Int.add_zero] at this
theorem RGs.cg2 (h : RGs D f g μ) (e : ∀ o : Int, (48 ≤ o ∧ o ≤ 48) ∨ (52 ≤ o ∧ o ≤ 52) ∨ (54 ≤ o ∧ o ≤ 56) → μ1 o = μ o) (e2 : ∀ k : Int, k = 19 → μ1 45 k = μ 45 k) : RGs D f g μ1 := by
  unfold RGs at h ⊢
  rw [e 48 (by omega), e 52 (by omega), e 54 (by omega), e 55 (by omega), e 56 (by omega), e2 19 rfl]
  exact h
theorem RW.ok (h : RW D f μ) : GOK D := h.1
theorem RW.r (h : RW D f μ) : 0 ≤ f ∧ f + dN D ≤ 64 := h.2.1
theorem RW.kn (h : RW D f μ) : μ 45 21 = am_b (¬ klow D = 99) := h.2.2.1
theorem RW.x (h : RW D f μ) (hi : 0 ≤ i ∧ i < dN D) : μ 52 (f + i) - μ 52 f = dX D i := (h.2.2.2 i hi.1 hi.2).1.1
theorem RW.h (h : RW D f μ) (hi : 0 ≤ i ∧ i < dN D) : μ 56 (f + i) = dH D i := (h.2.2.2 i hi.1 hi.2).1.2.1
theorem RW.b (h : RW D f μ) (hi : 0 ≤ i ∧ i < dN D) : μ 48 (f + i) = dB D i := (h.2.2.2 i hi.1 hi.2).1.2.2
theorem RW.w (h : RW D f μ) (hi : 0 ≤ i ∧ i < dN D) : μ 57 (f + i) = way D i := (h.2.2.2 i hi.1 hi.2).2
theorem RW.h0 (h : RW D f μ) (hi : 0 < dN D) : μ 56 f = dH D 0 := by have := h.h (i := 0) (by omega); rwa [Int.add_zero] at this
theorem RW.b0 (h : RW D f μ) (hi : 0 < dN D) : μ 48 f = dB D 0 := by have := h.b (i := 0) (by omega); rwa [Int.add_zero] at this
theorem RW.w0 (h : RW D f μ) (hi : 0 < dN D) : μ 57 f = way D 0 := by have := h.w (i := 0) (by omega); rwa [Int.add_zero] at this
theorem RW.cg2 (h : RW D f μ) (e : ∀ o : Int, (48 ≤ o ∧ o ≤ 48) ∨ (52 ≤ o ∧ o ≤ 52) ∨ (56 ≤ o ∧ o ≤ 57) → μ1 o = μ o) (e2 : ∀ k : Int, k = 21 → μ1 45 k = μ 45 k) : RW D f μ1 := by
  unfold RW at h ⊢
  rw [e 48 (by omega), e 52 (by omega), e 56 (by omega), e 57 (by omega), e2 21 rfl]
  exact h
theorem RO.rw (h : RO D f μ) : RW D f μ := h.1
theorem RO.ok (h : RO D f μ) : GOK D := h.1.1
theorem RO.r (h : RO D f μ) : 0 ≤ f ∧ f + dN D ≤ 64 := h.1.r
theorem RO.fi (h : RO D f μ) : μ 45 22 = f := h.2.1
theorem RO.la (h : RO D f μ) : μ 45 23 = f + (dN D - 1) := h.2.2.1
theorem RO.sp (h : RO D f μ) : μ 45 24 = spn D := h.2.2.2
theorem RO.cg2 (h : RO D f μ) (e : ∀ o : Int, (48 ≤ o ∧ o ≤ 48) ∨ (52 ≤ o ∧ o ≤ 52) ∨ (56 ≤ o ∧ o ≤ 57) → μ1 o = μ o) (e2 : ∀ k : Int, 21 ≤ k ∧ k ≤ 24 → μ1 45 k = μ 45 k) : RO D f μ1 := by
  refine ⟨h.1.cg2 e (fun k h1 => e2 k (by omega)), ?_, ?_, ?_⟩
  · rw [e2 22 (by omega)]; exact h.fi
  · rw [e2 23 (by omega)]; exact h.la
  · rw [e2 24 (by omega)]; exact h.sp
end RGss
theorem klow_31 {D : GDt} : klow D = (kst D 25).1 := rfl
theorem len_lr (D : GDt) (l r a : Int) : way D a * (l * (spn D - dX D a) + r * dX D a - 2 * dH D a * spn D) = len D (r - l) l a := by
  rw [← len_h, Int.mul_sub l, Int.sub_mul r l]
  congr 1
  omega
theorem hasI_am {D : GDt} {p k b : Int} (hk : 0 ≤ k) (hb : b = am_b (hasI D p k = true)) : (if ¬ b = 0 then 1 else if dH D k = p then 1 else 0) = am_b (hasI D p (k + 1) = true) := by
  rw [hasI_succ hk, hb]
  by_cases h1 : hasI D p k = true
  · simp [h1, am_b]
  · by_cases h2 : dH D k = p
    · simp [h1, h2, am_b]
    · simp [h1, h2, am_b]
theorem ab_f (a : Int) : ab a = if 0 ≤ a then a else -a := rfl
theorem klow_f (D : GDt) (h : GOK D) : klow D = 99 ∨ (-12 ≤ klow D ∧ klow D ≤ 12) := klow_r h
/-- the reference's four numbers of the search are the document's -/
def rk (D : GDt) (s b gr ne be : Int) : Prop := b = (kst D s).1 ∧ gr = (kst D s).2.1 ∧ ne = (kst D s).2.2.1 ∧ be = (kst D s).2.2.2
theorem rk_0 (D : GDt) : rk D 0 99 0 0 99 := ⟨rfl, rfl, rfl, rfl⟩
theorem rk_n {D : GDt} {p b gr ne be : Int} (hp : -12 ≤ p) (h : ¬ has D (p + 12 - 12) = true) (hr : rk D (p + 12) b gr ne be) : rk D (p + 1 + 12) b gr ne be := by
  unfold rk at hr ⊢
  rw [show p + 1 + 12 = p + 12 + 1 by omega, kst_n hp h]
  exact hr
theorem rk_h {D : GDt} {p b gr ne be : Int} (hp : -12 ≤ p) (h : has D (p + 12 - 12) = true) (hr : rk D (p + 12) b gr ne be) :
    rk D (p + 1 + 12) (if dK D ≤ (if be = 99 then 0 else p - be) ∧ (gr < (if be = 99 then 0 else p - be) ∨ (if be = 99 then 0 else p - be) = gr ∧ ab (p + be) < ne) then be else b) (if dK D ≤ (if be = 99 then 0 else p - be) ∧ (gr < (if be = 99 then 0 else p - be) ∨ (if be = 99 then 0 else p - be) = gr ∧ ab (p + be) < ne) then (if be = 99 then 0 else p - be) else gr) (if dK D ≤ (if be = 99 then 0 else p - be) ∧ (gr < (if be = 99 then 0 else p - be) ∨ (if be = 99 then 0 else p - be) = gr ∧ ab (p + be) < ne) then ab (p + be) else ne) p := by
  unfold rk at hr ⊢
  rw [show p + 1 + 12 = p + 12 + 1 by omega, kst_h hp h]
  rw [show p + 12 - 12 = p by omega] at h
  obtain ⟨e1, e2, e3, e4⟩ := hr
  subst e1; subst e2; subst e3; subst e4
  unfold kstep
  rw [if_pos h, ks_ite]
  refine ⟨rfl, rfl, rfl, ?_⟩
  exact (ite_self _).symm
theorem rk_eq {D : GDt} {s b gr ne be b' gr' ne' be' : Int} (h : rk D s b gr ne be) (e1 : b' = b) (e2 : gr' = gr) (e3 : ne' = ne) (e4 : be' = be) : rk D s b' gr' ne' be' := by
  subst e1; subst e2; subst e3; subst e4; exact h
theorem rk_b {D : GDt} {p b gr ne be : Int} (hk : kin D (p + 12)) (hr : rk D (p + 12) b gr ne be) : (be = 99 ∨ (-12 ≤ be ∧ be < p)) ∧ ((b = 99 ∧ gr = 0 ∧ ne = 0) ∨ (-12 ≤ b ∧ b ≤ 12 ∧ dK D ≤ gr ∧ gr ≤ 24 ∧ 0 ≤ ne ∧ ne ≤ 24)) := by
  obtain ⟨e1, e2, e3, e4⟩ := hr
  unfold kin at hk
  rw [← e1, ← e2, ← e3, ← e4] at hk
  omega
theorem fillf {μ : Mu} {o f i v : Int} {w : Int → Int} (h : ∀ j : Int, 0 ≤ j → j < i → μ o (f + j) = w j) (hv : v = w i) : ∀ j : Int, 0 ≤ j → j < i + 1 → am_up μ o (f + i) v o (f + j) = w j := by
  intro j h1 h2
  by_cases hj : j = i
  · rw [hj, am_up_at, hv]
  · rw [am_up_nk (by omega)]
    exact h j h1 (by omega)
theorem RW.of {D : GDt} {f g : Int} {μ μ1 : Mu} (h : RGs D f g μ) (e : ∀ o : Int, o = 48 ∨ o = 52 ∨ o = 56 → μ1 o = μ o) (hk : μ1 45 21 = am_b (¬ klow D = 99)) (hw : ∀ j : Int, 0 ≤ j → j < dN D → μ1 57 (f + j) = way D j) : RW D f μ1 := by
  refine ⟨h.1, ⟨h.r.1, h.r.2.1⟩, hk, fun i h1 h2 => ⟨?_, hw i h1 h2⟩⟩
  rw [e 48 (by omega), e 52 (by omega), e 56 (by omega)]
  exact h.2.2.2 i h1 h2
theorem len_fr (D : GDt) (l r i : Int) (h : GOK D) (hi : 0 ≤ i ∧ i < dN D) (hlr : (-60 ≤ l ∧ l ≤ 60) ∧ (-60 ≤ r ∧ r ≤ 60) ∧ (-8 ≤ r - l ∧ r - l ≤ 8)) : -261360 ≤ len D (r - l) l i ∧ len D (r - l) l i ≤ 261360 := len_r h hi (by omega) (by omega)
theorem hgt_fr (D : GDt) (l r i : Int) (h : GOK D) (hi : 0 ≤ i ∧ i < dN D) (hlr : (-60 ≤ l ∧ l ≤ 60) ∧ (-60 ≤ r ∧ r ≤ 60) ∧ (-8 ≤ r - l ∧ r - l ≤ 8)) : (-151200 ≤ l * (spn D - dX D i) ∧ l * (spn D - dX D i) ≤ 151200) ∧ (-151200 ≤ r * dX D i ∧ r * dX D i ≤ 151200) := by
  have h1 := h.xs hi
  have h2 := h.sp
  have h3 := am_mul_b (a := l) (b := spn D - dX D i) (A := 60) (B := 2520) (by omega) (by omega)
  have h4 := am_mul_b (a := r) (b := dX D i) (A := 60) (B := 2520) (by omega) (by omega)
  omega
theorem ideal_f (D : GDt) (i : Int) (h : GOK D) (hi : 0 ≤ i ∧ i < dN D) : 14 ≤ ideal D i ∧ ideal D i ≤ 24 := ideal_r h hi
theorem alwI_in {D : GDt} {s l i t : Int} (hi : 0 ≤ i) (ht : lst (dB D i) = t) (h : t * spn D ≤ len D s l i ∧ len D s l i ≤ 44 * spn D) (hA : alwI D s l i = true) : alwI D s l (i + 1) = true := by
  rw [alwI_s hi, hA, ht, Bool.true_and, decide_eq_true_iff]; exact h
theorem alwB_out {D : GDt} {s l i t : Int} (hi : 0 ≤ i ∧ i < dN D) (ht : lst (dB D i) = t) (h : ¬ (t * spn D ≤ len D s l i ∧ len D s l i ≤ 44 * spn D)) : ¬ alwB D s l = true := by
  rw [alwB_iff (by omega)]
  intro ha
  have h2 := ha i hi.1 hi.2
  unfold okN at h2
  rw [ht] at h2
  exact h h2
theorem mulneg (s w : Int) : s * w < 0 ↔ (0 < w ∧ s < 0) ∨ (w < 0 ∧ 0 < s) := by
  constructor
  · intro h
    by_cases h1 : 0 < w
    · by_cases h2 : s < 0
      · exact Or.inl ⟨h1, h2⟩
      · have := Int.mul_nonneg (a := s) (b := w) (by omega) (by omega); omega
    · by_cases h2 : 0 < s
      · by_cases h3 : w = 0
        · rw [h3, Int.mul_zero] at h; omega
        · exact Or.inr ⟨by omega, h2⟩
      · have h3 := Int.mul_nonneg (a := -s) (b := -w) (by omega) (by omega)
        rw [Int.neg_mul_neg] at h3; omega
  · rintro (⟨h1, h2⟩ | ⟨h1, h2⟩)
    · exact Int.mul_neg_of_neg_of_pos h2 h1
    · exact Int.mul_neg_of_pos_of_neg h2 h1
theorem hn_am {D : GDt} {i b : Int} (hi : 1 ≤ i) (hb : b = am_b (hnear D i = true)) : (if ¬ b = 0 then 1 else if 0 < way D 0 then (if dH D 0 < dH D i ∧ dH D (dN D - 1) < dH D i then 1 else 0) else (if dH D i < dH D 0 ∧ dH D i < dH D (dN D - 1) then 1 else 0)) = am_b (hnear D (i + 1) = true) := by
  rw [hnear_s (by omega), hb]
  have h1 : decide (1 ≤ i) = true := decide_eq_true hi
  rw [h1, Bool.true_and]
  by_cases h2 : hnear D i = true
  · simp [h2, am_b]
  · have h3 : hnear D i = false := by simpa using h2
    rw [h3]
    unfold nearB
    by_cases h4 : 0 < way D 0
    · by_cases h5 : dH D 0 < dH D i ∧ dH D (dN D - 1) < dH D i
      · simp [h4, h5, am_b]; try omega
      · simp [h4, h5, am_b]; try omega
    · by_cases h5 : dH D i < dH D 0 ∧ dH D i < dH D (dN D - 1)
      · simp [h4, h5, am_b]; try omega
      · simp [h4, h5, am_b]; try omega
def tat (h : Int) : Int := if h < -9 ∨ 9 < h then -1 else h % 4
theorem tat_f (h : Int) : -1 ≤ tat h ∧ tat h ≤ 3 := by unfold tat; split <;> omega
theorem eco_fr (D : GDt) (i h r : Int) (hk : GOK D) (hi : 0 ≤ i ∧ i < dN D) : 0 ≤ eco D i h r ∧ eco D i h r ≤ 75 := by
  have h1 := hk.br hi
  have h2 := ecs_r D i h r (k := dB D i) (by omega)
  unfold eco
  omega
theorem ugl_fr (D : GDt) (l r : Int) (h : GOK D) (hlr : (-60 ≤ l ∧ l ≤ 60) ∧ (-60 ≤ r ∧ r ≤ 60) ∧ (-8 ≤ r - l ∧ r - l ≤ 8)) : 0 ≤ ugl D (r - l) l ∧ ugl D (r - l) l ≤ 41600300 := by
  have h1 := stm_r h (s := r - l) (l := l) (by omega) (by omega)
  have h2 := slp_r D (s := r - l) (by omega)
  have h3 := stf_r h (r - l) l
  unfold ugl
  omega
theorem lnsr_i {D : GDt} {l r i : Int} (h : GOK D) (hi : 0 ≤ i ∧ i ≤ dN D) (hlr : (-60 ≤ l ∧ l ≤ 60) ∧ (-60 ≤ r ∧ r ≤ 60) ∧ (-8 ≤ r - l ∧ r - l ≤ 8)) : -16000000 ≤ bsu D (r - l) i + wsu D i * l * spn D ∧ bsu D (r - l) i + wsu D i * l * spn D ≤ 16000000 := by
  have h1 := bsu_r h (s := r - l) (by omega) hi
  have h2 := wsu_r h hi
  have h3 := h.sp
  have h4 := am_mul_b (a := wsu D i) (b := l) (A := 64) (B := 60) (by omega) (by omega)
  have h5 := am_mul_b (a := wsu D i * l) (b := spn D) (A := 3840) (B := 2520) (by omega) (by omega)
  omega
theorem lns_fr (D : GDt) (l r : Int) (h : GOK D) (hlr : (-60 ≤ l ∧ l ≤ 60) ∧ (-60 ≤ r ∧ r ≤ 60) ∧ (-8 ≤ r - l ∧ r - l ≤ 8)) : -16000000 ≤ lns D (r - l) l ∧ lns D (r - l) l ≤ 16000000 := lnsr_i h ⟨by have := h.n; omega, by omega⟩ hlr
