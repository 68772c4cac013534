/-! ===== The tilted beam ===== -/
theorem okN_up {D : GDt} {s l i : Int} (hS : 0 < spn D) (hw : way D i = 1) : okN D s l i ↔ (-(bas D s i / spn D - lst (dB D i)) ≤ l ∧ l ≤ (44 * spn D - bas D s i) / spn D) := by
  have h1 := Int.le_ediv_iff_mul_le (a := lst (dB D i) - l) (b := bas D s i) hS
  have h2 := Int.le_ediv_iff_mul_le (a := l) (b := 44 * spn D - bas D s i) hS
  rw [Int.sub_mul] at h1
  unfold okN len
  rw [hw, Int.one_mul]
  omega
theorem okN_dn {D : GDt} {s l i : Int} (hS : 0 < spn D) (hw : way D i = -1) : okN D s l i ↔ (-((44 * spn D - bas D s i) / spn D) ≤ l ∧ l ≤ bas D s i / spn D - lst (dB D i)) := by
  have h1 := Int.le_ediv_iff_mul_le (a := lst (dB D i) + l) (b := bas D s i) hS
  have h2 := Int.le_ediv_iff_mul_le (a := -l) (b := 44 * spn D - bas D s i) hS
  rw [Int.add_mul] at h1
  rw [Int.neg_mul] at h2
  unfold okN len
  rw [hw, Int.neg_mul, Int.one_mul, Int.neg_mul]
  omega
/-- the heights that the first i notes allow -/
def alN (D : GDt) (s l i : Int) : Prop := ∀ j, 0 ≤ j → j < i → okN D s l j
theorem alN_0 {D : GDt} {s l : Int} : alN D s l 0 := fun j h1 h2 => by omega
theorem alN_s {D : GDt} {s l i : Int} (h : 0 ≤ i) : alN D s l (i + 1) ↔ (alN D s l i ∧ okN D s l i) := by
  constructor
  · intro q
    exact ⟨fun j h1 h2 => q j h1 (by omega), q i h (by omega)⟩
  · rintro ⟨q1, q2⟩ j h1 h2
    by_cases hj : j = i
    · subst hj; exact q2
    · exact q1 j h1 (by omega)
theorem alN_n {D : GDt} {s l : Int} : alN D s l (dN D) ↔ alw D s l := Iff.rfl
def TL (D : GDt) (s : Int) (μ : Mu) : Prop := μ 6 14 = bsu D s (dN D) ∧ (∀ i, 0 ≤ i → i < dN D → μ 14 i = bas D s i) ∧ ((-60 ≤ μ 6 16 ∧ μ 6 16 ≤ 300000) ∧ (-300000 ≤ μ 6 17 ∧ μ 6 17 ≤ 60)) ∧ (∀ l, (μ 6 16 ≤ l ∧ l ≤ μ 6 17) ↔ (inL s l ∧ alw D s l)) ∧ GOK D ∧ (-8 ≤ s ∧ s ≤ 8)
section TLs
variable {D : GDt} {s : Int} {μ μ1 : Mu} {i l : Int}
theorem TL.bs (h : TL D s μ) : μ 6 14 = bsu D s (dN D) := h.1
theorem TL.b (h : TL D s μ) (hi : 0 ≤ i ∧ i < dN D) : μ 14 i = bas D s i := h.2.1 i hi.1 hi.2
theorem TL.lh (h : TL D s μ) : (-60 ≤ μ 6 16 ∧ μ 6 16 ≤ 300000) ∧ (-300000 ≤ μ 6 17 ∧ μ 6 17 ≤ 60) := h.2.2.1
theorem TL.al (h : TL D s μ) : (μ 6 16 ≤ l ∧ l ≤ μ 6 17) ↔ (inL s l ∧ alw D s l) := h.2.2.2.1 l
theorem TL.ok (h : TL D s μ) : GOK D := h.2.2.2.2.1
theorem TL.sb (h : TL D s μ) : -8 ≤ s ∧ s ≤ 8 := h.2.2.2.2.2
theorem TL.br (h : TL D s μ) (hi : 0 ≤ i ∧ i < dN D) : -90000 ≤ bas D s i ∧ bas D s i ≤ 90000 := bas_r h.ok hi h.sb
theorem TL.sr (h : TL D s μ) : -5760000 ≤ bsu D s (dN D) ∧ bsu D s (dN D) ≤ 5760000 := bsu_r h.ok h.sb (by have := h.ok.n; omega)
theorem TL.cg2 (h : TL D s μ) (e : ∀ o : Int, 14 ≤ o ∧ o ≤ 14 → μ1 o = μ o) (f : ∀ k : Int, k = 14 ∨ k = 16 ∨ k = 17 → μ1 6 k = μ 6 k) : TL D s μ1 := by
  unfold TL at h ⊢
  rw [e 14 (by omega), f 14 (by omega), f 16 (by omega), f 17 (by omega)]
  exact h
end TLs
def keyu (D : GDt) (s l u : Int) : Int := (((u * 16 + ab s) * 16777216 + bsu D s (dN D) + wsu D (dN D) * l * spn D) * 128 + 60 + way D 0 * l) * 128 + 60 + way D 0 * (l + s)
theorem key_u (D : GDt) (s l : Int) : key D s l = keyu D s l (ugl D s l) := rfl
theorem ws_r {D : GDt} {l : Int} (h : GOK D) (hl : -68 ≤ l ∧ l ≤ 68) : (-4352 ≤ wsu D (dN D) * l ∧ wsu D (dN D) * l ≤ 4352) ∧ (-10967040 ≤ wsu D (dN D) * l * spn D ∧ wsu D (dN D) * l * spn D ≤ 10967040) := by
  have h2 := h.sp
  have h3 := am_mul_b (A := 64) (B := 68) (wsu_r h (i := dN D) (by have := h.n; omega)) hl
  have h4 := am_mul_b (a := wsu D (dN D) * l) (b := spn D) (A := 4352) (B := 2520) (by omega) (by omega)
  exact ⟨by omega, by omega⟩
theorem am_xor_neg {a b : Int} (ha : R32 a) (hb : 0 ≤ b ∧ b ≤ 2147483647) : am_ixor a b < 0 ↔ a < 0 := by
  have h1 : ∀ x : Int32, x.toInt < 0 ↔ x.toBitVec.msb = true := fun x => by
    rw [BitVec.msb_eq_toInt]
    exact ⟨fun h => decide_eq_true h, fun h => of_decide_eq_true h⟩
  unfold am_ixor
  rw [h1, Int32.toBitVec_xor, BitVec.msb_xor]
  have h2 : (Int32.ofInt b).toBitVec.msb = false := by
    have := (h1 (Int32.ofInt b)).mpr
    rw [R32.eq ⟨by omega, by omega⟩] at this
    cases h : (Int32.ofInt b).toBitVec.msb with
    | false => rfl
    | true => have := this h; omega
  rw [h2, Bool.xor_false, ← h1, ha.eq]
theorem am_ixor_r (a b : Int) : R32 (am_ixor a b) := am_toInt_r _
theorem tl_0 {D : GDt} (s : Int) : ∀ l, (max (-60) (-60 - s) ≤ l ∧ l ≤ min 60 (60 - s)) ↔ (inL s l ∧ alN D s l 0) := by
  intro l
  have h := alN_0 (D := D) (s := s) (l := l)
  unfold inL
  constructor
  · intro q; exact ⟨by omega, h⟩
  · rintro ⟨q, _⟩; omega
theorem tl_up {D : GDt} {s i lo hi : Int} (h0 : 0 ≤ i) (hS : 0 < spn D) (hw : way D i = 1) (h : ∀ l, (lo ≤ l ∧ l ≤ hi) ↔ (inL s l ∧ alN D s l i)) :
    ∀ l, (max lo (-(bas D s i / spn D - lst (dB D i))) ≤ l ∧ l ≤ min hi ((44 * spn D - bas D s i) / spn D)) ↔ (inL s l ∧ alN D s l (i + 1)) := by
  intro l
  rw [alN_s h0, okN_up hS hw, ← and_assoc, ← h l]
  omega
theorem tl_dn {D : GDt} {s i lo hi : Int} (h0 : 0 ≤ i) (hS : 0 < spn D) (hw : way D i = -1) (h : ∀ l, (lo ≤ l ∧ l ≤ hi) ↔ (inL s l ∧ alN D s l i)) :
    ∀ l, (max lo (-((44 * spn D - bas D s i) / spn D)) ≤ l ∧ l ≤ min hi (bas D s i / spn D - lst (dB D i))) ↔ (inL s l ∧ alN D s l (i + 1)) := by
  intro l
  rw [alN_s h0, okN_dn hS hw, ← and_assoc, ← h l]
  omega
theorem fmd {a b : Int} (hb : 0 < b) : (a % b = if Int.tmod a b < 0 then Int.tmod a b + b else Int.tmod a b) ∧ (-b < Int.tmod a b ∧ Int.tmod a b < b) ∧ (0 ≤ a → 0 ≤ Int.tmod a b) ∧ (a < 0 → Int.tmod a b ≤ 0) := by
  have hp : 0 ≤ a → 0 ≤ Int.tmod a b := fun q => by rw [Int.tmod_eq_emod_of_nonneg q]; exact Int.emod_nonneg a (by omega)
  have h := Int.tmod_eq_emod (a := a) (b := b)
  have h1 := Int.emod_nonneg a (show b ≠ 0 by omega)
  have h2 := Int.emod_lt_of_pos a hb
  by_cases hc : 0 ≤ a ∨ b ∣ a
  · rw [if_pos hc] at h
    omega
  · rw [if_neg hc] at h
    have h3 : ¬ a % b = 0 := fun q => hc (Or.inr (Int.dvd_of_emod_eq_zero q))
    omega
theorem fdv {a b : Int} (hb : 0 < b) : a / b = if a < 0 ∧ ¬ Int.tdiv a b * b = a then Int.tdiv a b - 1 else Int.tdiv a b := by
  have h := Int.tdiv_eq_ediv (a := a) (b := b)
  by_cases hc : 0 ≤ a ∨ b ∣ a
  · rw [if_pos hc] at h
    rw [if_neg]
    · omega
    · rintro ⟨q1, q2⟩
      rcases hc with q | q
      · omega
      · exact q2 (Int.tdiv_mul_cancel q)
  · rw [if_neg hc, Int.sign_eq_one_of_pos hb] at h
    rw [if_pos]
    · omega
    · exact ⟨by omega, fun q => hc (Or.inr ⟨Int.tdiv a b, by rw [Int.mul_comm]; exact q.symm⟩)⟩
theorem edv_r (a b : Int) (hb : 0 < b) : -(if 0 ≤ a then a else -a) ≤ a / b ∧ a / b ≤ (if 0 ≤ a then a else -a) := by
  by_cases h : 0 ≤ a
  · have h1 := am_div_r h hb
    omega
  · have h1 : a / b < 0 := Int.ediv_neg_of_neg_of_pos (by omega) hb
    have h2 : a ≤ a / b := by
      rw [Int.le_ediv_iff_mul_le hb]
      have := Int.mul_le_mul_of_nonpos_left (show a ≤ 0 by omega) (show 1 ≤ b by omega)
      omega
    omega
theorem am_tdiv_r {a b : Int} (ha : -2147483647 ≤ a ∧ a ≤ 2147483647) (hb : 0 < b ∧ b ≤ 2147483647) : (-2147483648 ≤ Int.tdiv a b ∧ Int.tdiv a b ≤ 2147483647) ∧ (-2147483648 ≤ Int.tdiv a b * b ∧ Int.tdiv a b * b ≤ 2147483647) := by
  have h := Int.tdiv_eq_ediv (a := a) (b := b)
  have h1 := edv_r a b hb.1
  have h2 := Int.mul_tdiv_add_tmod a b
  have h3 := fmd (a := a) hb.1
  rw [Int.mul_comm] at h2
  have h4 := Int.tmod_eq_emod (a := a) (b := b)
  have h5 := Int.emod_nonneg a (show b ≠ 0 by omega)
  by_cases hc : 0 ≤ a ∨ b ∣ a
  · rw [if_pos hc] at h h4
    have h6 := Int.emod_lt_of_pos a hb.1
    refine ⟨by omega, ?_⟩
    rcases hc with q | q
    · have h7 : 0 ≤ Int.tdiv a b := Int.tdiv_nonneg q (by omega)
      have h8 := Int.mul_nonneg h7 (show 0 ≤ b by omega)
      omega
    · have h7 := Int.tdiv_mul_cancel q
      omega
  · rw [if_neg hc, Int.sign_eq_one_of_pos hb.1] at h
    rw [if_neg hc] at h4
    have h6 := Int.emod_lt_of_pos a hb.1
    have h7 : Int.tdiv a b ≤ 0 := by
      have h8 : a / b < 0 := Int.ediv_neg_of_neg_of_pos (by omega) hb.1
      omega
    refine ⟨by omega, ?_⟩
    have h8 := Int.mul_nonneg (show 0 ≤ -Int.tdiv a b by omega) (show 0 ≤ b by omega)
    rw [Int.neg_mul] at h8
    omega
theorem stm_f (D : GDt) (s l : Int) (h : GOK D) (hs : -8 ≤ s ∧ s ≤ 8) (hl : -68 ≤ l ∧ l ≤ 68) : 0 ≤ stm D s l ∧ stm D s l ≤ 41600000 := stm_r h hs hl
theorem slp_f (D : GDt) (s : Int) (hs : -8 ≤ s ∧ s ≤ 8) : 0 ≤ slp D s ∧ slp D s ≤ 98 := ⟨(slp_r D hs).1, (slp_r D hs).2.1⟩
theorem stf_f (D : GDt) (s l : Int) (h : GOK D) : 0 ≤ stf D s l ∧ stf D s l ≤ 150 := stf_r h s l
