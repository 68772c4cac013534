/-! ===== What the group's object holds ===== -/
/-- a row that is filled from its begin on -/
theorem fillr {μ : Mu} {o i v : Int} {f : Int → Int} (h : ∀ j : Int, 0 ≤ j → j < i → μ o j = f j) (hv : v = f i) : ∀ j : Int, 0 ≤ j → j < i + 1 → am_up μ o i v o j = f j := by
  intro j h1 h2
  by_cases hj : j = i
  · rw [hj, am_up_at, hv]
  · rw [am_up_nk hj]
    exact h j h1 (by omega)
/-- a row of which one place changes -/
theorem setr {μ : Mu} {o k v n : Int} {f g : Int → Int} (h : ∀ j : Int, 0 ≤ j → j < n → μ o j = f j) (hv : v = g k) (hg : ∀ j : Int, 0 ≤ j → j < n → ¬ j = k → g j = f j) : ∀ j : Int, 0 ≤ j → j < n → am_up μ o k v o j = g j := by
  intro j h1 h2
  by_cases hj : j = k
  · rw [hj, am_up_at, hv]
  · rw [am_up_nk hj, h j h1 h2, hg j h1 h2 hj]
def GL1 (D : GDt) (μ : Mu) : Prop := GOK D ∧ (μ 6 0 = dN D ∧ μ 6 1 = dN D - 1 ∧ μ 6 2 = spn D) ∧ ∀ i, 0 ≤ i → i < dN D → μ 7 i = dX D i ∧ μ 8 i = dH D i ∧ μ 9 i = dB D i
def GL2 (D : GDt) (μ : Mu) : Prop := GL1 D μ ∧ (μ 6 4 = am_b (¬ klow D = 99) ∧ μ 6 15 = wsu D (dN D)) ∧ ∀ i, 0 ≤ i → i < dN D → μ 10 i = way D i
def GLd (D : GDt) (μ : Mu) : Prop := GL2 D μ ∧ μ 6 3 = want D ∧ ∀ i, 0 ≤ i → i < dN D → μ 11 i = ideal D i
section GLs
variable {D : GDt} {μ μ1 : Mu} {i : Int}
theorem GL1.ok (h : GL1 D μ) : GOK D := h.1
theorem GL1.n (h : GL1 D μ) : μ 6 0 = dN D := h.2.1.1
theorem GL1.la (h : GL1 D μ) : μ 6 1 = dN D - 1 := h.2.1.2.1
theorem GL1.sp (h : GL1 D μ) : μ 6 2 = spn D := h.2.1.2.2
theorem GL1.x (h : GL1 D μ) (hi : 0 ≤ i ∧ i < dN D) : μ 7 i = dX D i := (h.2.2 i hi.1 hi.2).1
theorem GL1.h (h : GL1 D μ) (hi : 0 ≤ i ∧ i < dN D) : μ 8 i = dH D i := (h.2.2 i hi.1 hi.2).2.1
theorem GL1.b (h : GL1 D μ) (hi : 0 ≤ i ∧ i < dN D) : μ 9 i = dB D i := (h.2.2 i hi.1 hi.2).2.2
theorem GL1.cg2 (h : GL1 D μ) (e : ∀ o : Int, 7 ≤ o ∧ o ≤ 9 → μ1 o = μ o) (f : ∀ k : Int, 0 ≤ k ∧ k ≤ 2 → μ1 6 k = μ 6 k) : GL1 D μ1 := by
  unfold GL1 at h ⊢
  rw [e 7 (by omega), e 8 (by omega), e 9 (by omega), f 0 (by omega), f 1 (by omega), f 2 (by omega)]
  exact h
theorem GL2.l1 (h : GL2 D μ) : GL1 D μ := h.1
theorem GL2.ok (h : GL2 D μ) : GOK D := h.1.1
theorem GL2.n (h : GL2 D μ) : μ 6 0 = dN D := h.1.n
theorem GL2.la (h : GL2 D μ) : μ 6 1 = dN D - 1 := h.1.la
theorem GL2.sp (h : GL2 D μ) : μ 6 2 = spn D := h.1.sp
theorem GL2.x (h : GL2 D μ) (hi : 0 ≤ i ∧ i < dN D) : μ 7 i = dX D i := h.1.x hi
theorem GL2.h (h : GL2 D μ) (hi : 0 ≤ i ∧ i < dN D) : μ 8 i = dH D i := h.1.h hi
theorem GL2.b (h : GL2 D μ) (hi : 0 ≤ i ∧ i < dN D) : μ 9 i = dB D i := h.1.b hi
theorem GL2.kn (h : GL2 D μ) : μ 6 4 = am_b (¬ klow D = 99) := h.2.1.1
theorem GL2.ws (h : GL2 D μ) : μ 6 15 = wsu D (dN D) := h.2.1.2
theorem GL2.w (h : GL2 D μ) (hi : 0 ≤ i ∧ i < dN D) : μ 10 i = way D i := h.2.2 i hi.1 hi.2
theorem GL2.cg2 (h : GL2 D μ) (e : ∀ o : Int, 7 ≤ o ∧ o ≤ 10 → μ1 o = μ o) (f : ∀ k : Int, (0 ≤ k ∧ k ≤ 2) ∨ k = 4 ∨ k = 15 → μ1 6 k = μ 6 k) : GL2 D μ1 := by
  refine ⟨h.1.cg2 (fun o h1 => e o (by omega)) (fun k h1 => f k (by omega)), ?_, ?_⟩
  · rw [f 4 (by omega), f 15 (by omega)]; exact h.2.1
  · rw [e 10 (by omega)]; exact h.2.2
theorem GLd.l2 (h : GLd D μ) : GL2 D μ := h.1
theorem GLd.l1 (h : GLd D μ) : GL1 D μ := h.1.1
theorem GLd.ok (h : GLd D μ) : GOK D := h.1.1.1
theorem GLd.n (h : GLd D μ) : μ 6 0 = dN D := h.l1.n
theorem GLd.la (h : GLd D μ) : μ 6 1 = dN D - 1 := h.l1.la
theorem GLd.sp (h : GLd D μ) : μ 6 2 = spn D := h.l1.sp
theorem GLd.x (h : GLd D μ) (hi : 0 ≤ i ∧ i < dN D) : μ 7 i = dX D i := h.l1.x hi
theorem GLd.h (h : GLd D μ) (hi : 0 ≤ i ∧ i < dN D) : μ 8 i = dH D i := h.l1.h hi
theorem GLd.b (h : GLd D μ) (hi : 0 ≤ i ∧ i < dN D) : μ 9 i = dB D i := h.l1.b hi
theorem GLd.kn (h : GLd D μ) : μ 6 4 = am_b (¬ klow D = 99) := h.l2.kn
theorem GLd.ws (h : GLd D μ) : μ 6 15 = wsu D (dN D) := h.l2.ws
theorem GLd.w (h : GLd D μ) (hi : 0 ≤ i ∧ i < dN D) : μ 10 i = way D i := h.l2.w hi
theorem GLd.wa (h : GLd D μ) : μ 6 3 = want D := h.2.1
theorem GLd.id (h : GLd D μ) (hi : 0 ≤ i ∧ i < dN D) : μ 11 i = ideal D i := h.2.2 i hi.1 hi.2
theorem GLd.cg2 (h : GLd D μ) (e : ∀ o : Int, 7 ≤ o ∧ o ≤ 11 → μ1 o = μ o) (f : ∀ k : Int, (0 ≤ k ∧ k ≤ 4) ∨ k = 15 → μ1 6 k = μ 6 k) : GLd D μ1 := by
  refine ⟨h.1.cg2 (fun o h1 => e o (by omega)) (fun k h1 => f k (by omega)), ?_, ?_⟩
  · rw [f 3 (by omega)]; exact h.2.1
  · rw [e 11 (by omega)]; exact h.2.2
end GLs
theorem hasI_succ {D : GDt} {p i : Int} (h : 0 ≤ i) : hasI D p (i + 1) = (hasI D p i || decide (dH D i = p)) := itr_succ h
theorem kst_h {D : GDt} {p : Int} (hp : -12 ≤ p) (h : has D (p + 12 - 12) = true) : kst D (p + 12 + 1) = kstep D p (kst D (p + 12)) := by
  unfold kst
  rw [itr_succ (by omega), show p + 12 - 12 = p by omega]
theorem kst_n {D : GDt} {p : Int} (hp : -12 ≤ p) (h : ¬ has D (p + 12 - 12) = true) : kst D (p + 12 + 1) = kst D (p + 12) := by
  unfold kst
  rw [itr_succ (by omega), kstep, if_neg h]
/-- the class's four numbers of the search, out of the document's -/
def krel (D : GDt) (s f g ne b : Int) : Prop :=
  f = (if (kst D s).1 = 99 then -1000000 else (kst D s).1) ∧ g = (if (kst D s).1 = 99 then dK D else (kst D s).2.1) ∧ ne = (if (kst D s).1 = 99 then 2147483647 else (kst D s).2.2.1) ∧ b = (if (kst D s).2.2.2 = 99 then -1000000 else (kst D s).2.2.2)
/-- what the document's four hold -/
def kin (D : GDt) (s : Int) : Prop := ((kst D s).2.2.2 = 99 ∨ (-12 ≤ (kst D s).2.2.2 ∧ (kst D s).2.2.2 < s - 12)) ∧ (((kst D s).1 = 99 ∧ (kst D s).2.1 = 0 ∧ (kst D s).2.2.1 = 0) ∨ (-12 ≤ (kst D s).1 ∧ (kst D s).1 ≤ 12 ∧ dK D ≤ (kst D s).2.1 ∧ (kst D s).2.1 ≤ 24 ∧ 0 ≤ (kst D s).2.2.1 ∧ (kst D s).2.2.1 ≤ 24))
theorem kin_0 (D : GDt) : kin D 0 := ⟨Or.inl rfl, Or.inl ⟨rfl, rfl, rfl⟩⟩
theorem krel_0 (D : GDt) : krel D 0 (-1000000) (dK D) 2147483647 (-1000000) := ⟨rfl, rfl, rfl, rfl⟩
theorem kin_n {D : GDt} {p : Int} (hp : -12 ≤ p) (h : ¬ has D (p + 12 - 12) = true) (hk : kin D (p + 12)) : kin D (p + 1 + 12) := by
  unfold kin at hk ⊢
  rw [show p + 1 + 12 = p + 12 + 1 by omega, kst_n hp h]
  omega
theorem krel_n {D : GDt} {p f g ne b : Int} (hp : -12 ≤ p) (h : ¬ has D (p + 12 - 12) = true) (hr : krel D (p + 12) f g ne b) : krel D (p + 1 + 12) f g ne b := by
  unfold krel at hr ⊢
  rw [show p + 1 + 12 = p + 12 + 1 by omega, kst_n hp h]
  exact hr
theorem ks_ite (c : Prop) [Decidable c] (x y : KS) : (if c then x else y) = (if c then x.1 else y.1, if c then x.2.1 else y.2.1, if c then x.2.2.1 else y.2.2.1, if c then x.2.2.2 else y.2.2.2) := by split <;> rfl
theorem kin_h {D : GDt} {p : Int} (hG : GOK D) (hp : -12 ≤ p ∧ p ≤ 12) (h : has D (p + 12 - 12) = true) (hk : kin D (p + 12)) : kin D (p + 1 + 12) := by
  have hK := hG.k
  unfold kin at hk ⊢
  rw [show p + 1 + 12 = p + 12 + 1 by omega, kst_h hp.1 h]
  generalize kst D (p + 12) = t at *
  obtain ⟨a, b, c, d⟩ := t
  rw [show p + 12 - 12 = p by omega] at h
  unfold kstep ab
  rw [if_pos h]
  dsimp only at hk ⊢
  rw [ks_ite]
  dsimp only
  omega
theorem krel_h {D : GDt} {p f g ne b : Int} (hG : GOK D) (hp : -12 ≤ p ∧ p ≤ 12) (h : has D (p + 12 - 12) = true) (hk : kin D (p + 12)) (hr : krel D (p + 12) f g ne b) :
    krel D (p + 1 + 12) (if g < (if b = -1000000 then 0 else p - b) ∨ (if b = -1000000 then 0 else p - b) = g ∧ ab (p + b) < ne then b else f) (if g < (if b = -1000000 then 0 else p - b) ∨ (if b = -1000000 then 0 else p - b) = g ∧ ab (p + b) < ne then (if b = -1000000 then 0 else p - b) else g) (if g < (if b = -1000000 then 0 else p - b) ∨ (if b = -1000000 then 0 else p - b) = g ∧ ab (p + b) < ne then ab (p + b) else ne) p := by
  have hK := hG.k
  unfold kin at hk
  unfold krel at hr ⊢
  rw [show p + 1 + 12 = p + 12 + 1 by omega, kst_h hp.1 h]
  generalize kst D (p + 12) = t at *
  obtain ⟨a, b0, c, d⟩ := t
  rw [show p + 12 - 12 = p by omega] at h
  unfold kstep
  rw [if_pos h, ks_ite]
  dsimp only at hk hr ⊢
  obtain ⟨hf, hg, hn, hb⟩ := hr
  by_cases hd : d = 99
  · have hb3 : b = -1000000 := by rw [hb, if_pos hd]
    rw [hb3, hd]
    simp only [if_true]
    generalize ab (p + 99) = N
    generalize ab (p + -1000000) = N2
    by_cases ha : a = 99
    · simp only [ha, if_true] at *
      omega
    · simp only [if_neg ha] at *
      omega
  · have hb3 : b = d := by rw [hb, if_neg hd]
    have hN : 0 ≤ ab (p + d) ∧ ab (p + d) ≤ 24 := by unfold ab; omega
    rw [hb3]
    simp only [if_neg hd, if_neg (show ¬ d = -1000000 by omega)]
    generalize ab (p + d) = N at *
    generalize hGp : p - d = Gp at *
    by_cases ha : a = 99
    · simp only [ha, if_true] at *
      omega
    · simp only [if_neg ha] at *
      omega
theorem krel_eq {D : GDt} {s f g ne b f' g' ne' b' : Int} (h : krel D s f g ne b) (h1 : f' = f) (h2 : g' = g) (h3 : ne' = ne) (h4 : b' = b) : krel D s f' g' ne' b' := by subst h1; subst h2; subst h3; subst h4; exact h
theorem krel_b {D : GDt} {p f g ne b : Int} (hG : GOK D) (hk : kin D (p + 12)) (hr : krel D (p + 12) f g ne b) (hp : p ≤ 13) : (b = -1000000 ∨ (-12 ≤ b ∧ b < p)) ∧ (f = -1000000 ∨ (-12 ≤ f ∧ f ≤ 12)) ∧ (4 ≤ g ∧ g ≤ 24) ∧ (0 ≤ ne ∧ ne ≤ 2147483647) := by
  have hK := hG.k
  unfold kin at hk
  unfold krel at hr
  omega
theorem kin_all {D : GDt} (hG : GOK D) : ∀ (m : Nat), (m : Int) ≤ 25 → kin D m := by
  intro m
  induction m with
  | zero => intro _; exact kin_0 D
  | succ m ih =>
    intro hm
    have h1 := ih (by omega)
    rw [show (m : Int) = ((m : Int) - 12) + 12 by omega] at h1
    rw [show ((m + 1 : Nat) : Int) = ((m : Int) - 12) + 1 + 12 by omega]
    by_cases h : has D ((m : Int) - 12 + 12 - 12) = true
    · exact kin_h hG (by omega) h h1
    · exact kin_n (by omega) h h1
theorem klow_r {D : GDt} (hG : GOK D) : klow D = 99 ∨ (-12 ≤ klow D ∧ klow D ≤ 12) := by
  have h := kin_all hG 25 (by decide)
  unfold kin at h
  unfold klow
  have e : ((25 : Nat) : Int) = 25 := rfl
  rw [e] at h
  omega
/-- what is wanted, as far as i -/
def wnt (D : GDt) (i : Int) : Int := if klow D = 99 ∧ hnear D i = true then 0 else max (-5) (min 5 (dH D (dN D - 1) - dH D 0))
theorem want_w (D : GDt) : want D = wnt D (dN D - 1) := rfl
theorem wnt_r (D : GDt) (i : Int) : -5 ≤ wnt D i ∧ wnt D i ≤ 5 := by unfold wnt; split <;> omega
theorem wnt_1 (D : GDt) : wnt D 1 = max (-5) (min 5 (dH D (dN D - 1) - dH D 0)) := by
  unfold wnt
  rw [if_neg]
  intro h
  have h1 := h.2
  rw [show (1 : Int) = 0 + 1 from rfl, hnear_s (by decide)] at h1
  simp [hnear, itr_0] at h1
theorem wnt_k {D : GDt} {i : Int} (h : ¬ klow D = 99) : wnt D i = max (-5) (min 5 (dH D (dN D - 1) - dH D 0)) := by
  unfold wnt
  rw [if_neg (fun q => h q.1)]
theorem wnt_s {D : GDt} {i : Int} (h : klow D = 99) (hi : 1 ≤ i) : wnt D (i + 1) = if 0 < way D 0 then (if max (dH D 0) (dH D (dN D - 1)) < dH D i then 0 else wnt D i) else (if dH D i < min (dH D 0) (dH D (dN D - 1)) then 0 else wnt D i) := by
  unfold wnt
  rw [hnear_s (by omega)]
  unfold nearB
  by_cases hw : 0 < way D 0
  · rw [if_pos hw, if_pos hw]
    by_cases hc : max (dH D 0) (dH D (dN D - 1)) < dH D i
    · rw [if_pos hc, if_pos ⟨h, by simp only [decide_eq_true hc, decide_eq_true hi, Bool.and_self, Bool.or_true]⟩]
    · rw [if_neg hc, decide_eq_false hc, Bool.and_false, Bool.or_false]
  · rw [if_neg hw, if_neg hw]
    by_cases hc : dH D i < min (dH D 0) (dH D (dN D - 1))
    · rw [if_pos hc, if_pos ⟨h, by simp only [decide_eq_true hc, decide_eq_true hi, Bool.and_self, Bool.or_true]⟩]
    · rw [if_neg hc, decide_eq_false hc, Bool.and_false, Bool.or_false]
/-- the numbers of a group: so many notes from f on, at the positions of row q -/
def gdtF (μ : Mu) (p : Int) (hf : Int → Int) (f m kn : Int) : GDt := (m, tr m (fun i => μ (p + 7) (f + i) - μ (p + 7) f), tr m (fun i => hf (f + i)), tr m (fun i => bmz μ p (f + i)), kn)
def gdt (μ : Mu) (p q f m kn : Int) : GDt := gdtF μ p (μ q) f m kn
theorem gdt_x {μ : Mu} {p q f m kn i : Int} (h : 0 ≤ i ∧ i < m) : dX (gdt μ p q f m kn) i = μ (p + 7) (f + i) - μ (p + 7) f := tr_at (f := fun i => μ (p + 7) (f + i) - μ (p + 7) f) h
theorem gdt_h {μ : Mu} {p q f m kn i : Int} (h : 0 ≤ i ∧ i < m) : dH (gdt μ p q f m kn) i = μ q (f + i) := tr_at (f := fun i => μ q (f + i)) h
theorem gdt_b {μ : Mu} {p q f m kn i : Int} (h : 0 ≤ i ∧ i < m) : dB (gdt μ p q f m kn) i = bmz μ p (f + i) := tr_at (f := fun i => bmz μ p (f + i)) h
def ldok (μ : Mu) (p q f m kn : Int) : Prop := (0 ≤ f ∧ 2 ≤ m ∧ f + m ≤ μ p 7) ∧ (4 ≤ kn ∧ kn ≤ 24) ∧ ∀ i, f ≤ i → i < f + m → (-12 ≤ μ q i ∧ μ q i ≤ 12) ∧ 1 ≤ bmz μ p i
theorem ldok.fm {μ : Mu} {p q f m kn : Int} (h : ldok μ p q f m kn) : 0 ≤ f ∧ 2 ≤ m ∧ f + m ≤ μ p 7 := h.1
theorem gdt_ok {μ : Mu} {p q f m kn : Int} (hI : PI μ p) (hG : PG μ p) (hL : ldok μ p q f m kn) : GOK (gdt μ p q f m kn) := by
  have hz := hI.sz
  obtain ⟨h1, h2, h3⟩ := hL
  refine ⟨⟨h1.2.1, by show m ≤ 64; omega⟩, h2, ?_, ?_, ?_⟩
  · rw [gdt_x (by omega)]
    simp
  · intro i hi hm
    change i + 1 < m at hm
    have h4 := hG.xs (i := f + i) (by omega)
    rw [gdt_x (by omega), gdt_x (by omega), ← Int.add_assoc]
    omega
  · intro i hi hm
    change i < m at hm
    have h4 := h3 (f + i) (by omega) (by omega)
    have h5 := bmz_r μ p (f + i)
    rw [gdt_h (by omega), gdt_b (by omega)]
    omega
theorem gdt_l1 {μ μ1 : Mu} {p q f m kn : Int} (hok : GOK (gdt μ p q f m kn)) (e0 : μ1 6 0 = m) (e1 : μ1 6 1 = m - 1) (e2 : μ1 6 2 = μ (p + 7) (f + (m - 1)) - μ (p + 7) f)
    (hx : ∀ j : Int, 0 ≤ j → j < m → μ1 7 j = μ (p + 7) (f + j) - μ (p + 7) f) (hh : ∀ j : Int, 0 ≤ j → j < m → μ1 8 j = μ q (f + j)) (hb : ∀ j : Int, 0 ≤ j → j < m → μ1 9 j = bmz μ p (f + j)) : GL1 (gdt μ p q f m kn) μ1 := by
  have hn := hok.n
  change 2 ≤ m ∧ m ≤ 64 at hn
  refine ⟨hok, ⟨e0, e1, ?_⟩, ?_⟩
  · rw [e2]
    show _ = dX (gdt μ p q f m kn) (m - 1)
    rw [gdt_x (by omega)]
  · intro i h1 h2
    change i < m at h2
    rw [gdt_x ⟨h1, h2⟩, gdt_h ⟨h1, h2⟩, gdt_b ⟨h1, h2⟩]
    exact ⟨hx i h1 h2, hh i h1 h2, hb i h1 h2⟩
theorem gdt_n {μ : Mu} {p q f m kn : Int} : dN (gdt μ p q f m kn) = m := rfl
theorem gdt_k {μ : Mu} {p q f m kn : Int} : dK (gdt μ p q f m kn) = kn := rfl
def ddt (μ : Mu) (p q kn : Int) : Int → GDt := fun g => gdt μ p q (μ (p + 9) g) (μ (p + 10) g) kn
def LDA (μ : Mu) (p q kn : Int) : Prop := ∀ g, 0 ≤ g → g < μ p 14 → ldok μ p q (μ (p + 9) g) (μ (p + 10) g) kn
