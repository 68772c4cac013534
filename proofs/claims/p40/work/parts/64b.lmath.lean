/-! ===== The law's sums: plain lemmas ===== -/
theorem len_lr (D : GDt) (l r a : Int) : way D a * (l * (spn D - dX D a) + r * dX D a - 2 * dH D a * spn D) = len D (r - l) l a := by
  rw [← len_h, Int.mul_sub l, Int.sub_mul r l]
  congr 1
  omega
theorem len_fr (D : GDt) (l r i : Int) (h : GOK D) (hi : 0 ≤ i ∧ i < dN D) (hlr : (-60 ≤ l ∧ l ≤ 60) ∧ (-60 ≤ r ∧ r ≤ 60) ∧ (-8 ≤ r - l ∧ r - l ≤ 8)) : -261360 ≤ len D (r - l) l i ∧ len D (r - l) l i ≤ 261360 := len_r h hi (by omega) (by omega)
theorem mulneg (s w : Int) : s * w < 0 ↔ (0 < w ∧ s < 0) ∨ (w < 0 ∧ 0 < s) := by
  constructor
  · intro h
    by_cases h1 : 0 < w
    · by_cases h2 : s < 0
      · exact Or.inl ⟨h1, h2⟩
      · have := Int.mul_nonneg (a := s) (b := w) (by omega) (by omega); omega
    · by_cases h2 : 0 < s
      · by_cases h3 : w = 0
        · rw [h3, Int.mul_zero] at h; omega
        · exact Or.inr ⟨by omega, h2⟩
      · have h3 := Int.mul_nonneg (a := -s) (b := -w) (by omega) (by omega)
        rw [Int.neg_mul_neg] at h3; omega
  · rintro (⟨h1, h2⟩ | ⟨h1, h2⟩)
    · exact Int.mul_neg_of_neg_of_pos h2 h1
    · exact Int.mul_neg_of_pos_of_neg h2 h1
theorem eco_fr (D : GDt) (i h r : Int) (hk : GOK D) (hi : 0 ≤ i ∧ i < dN D) : 0 ≤ eco D i h r ∧ eco D i h r ≤ 75 := by
  have h1 := hk.br hi
  have h2 := ecs_r D i h r (k := dB D i) (by omega)
  unfold eco
  omega
theorem ugl_fr (D : GDt) (l r : Int) (h : GOK D) (hlr : (-60 ≤ l ∧ l ≤ 60) ∧ (-60 ≤ r ∧ r ≤ 60) ∧ (-8 ≤ r - l ∧ r - l ≤ 8)) : 0 ≤ ugl D (r - l) l ∧ ugl D (r - l) l ≤ 41600300 := by
  have h1 := stm_r h (s := r - l) (l := l) (by omega) (by omega)
  have h2 := slp_r D (s := r - l) (by omega)
  have h3 := stf_r h (r - l) l
  unfold ugl
  omega
theorem lnsr_i {D : GDt} {l r i : Int} (h : GOK D) (hi : 0 ≤ i ∧ i ≤ dN D) (hlr : (-60 ≤ l ∧ l ≤ 60) ∧ (-60 ≤ r ∧ r ≤ 60) ∧ (-8 ≤ r - l ∧ r - l ≤ 8)) : -16000000 ≤ bsu D (r - l) i + wsu D i * l * spn D ∧ bsu D (r - l) i + wsu D i * l * spn D ≤ 16000000 := by
  have h1 := bsu_r h (s := r - l) (by omega) hi
  have h2 := wsu_r h hi
  have h3 := h.sp
  have h4 := am_mul_b (a := wsu D i) (b := l) (A := 64) (B := 60) (by omega) (by omega)
  have h5 := am_mul_b (a := wsu D i * l) (b := spn D) (A := 3840) (B := 2520) (by omega) (by omega)
  omega
theorem lns_fr (D : GDt) (l r : Int) (h : GOK D) (hlr : (-60 ≤ l ∧ l ≤ 60) ∧ (-60 ≤ r ∧ r ≤ 60) ∧ (-8 ≤ r - l ∧ r - l ≤ 8)) : -16000000 ≤ lns D (r - l) l ∧ lns D (r - l) l ≤ 16000000 := lnsr_i h ⟨by have := h.n; omega, by omega⟩ hlr

def HLR (l r : Int) : Prop := (-60 ≤ l ∧ l ≤ 60) ∧ (-60 ≤ r ∧ r ≤ 60) ∧ (-8 ≤ r - l ∧ r - l ≤ 8)
section lsums
variable {D : GDt} {l r i : Int}
/-- LENGTHS together, of the first i -/
def lsu (D : GDt) (s l i : Int) : Int := itr (fun j a => a + len D s l j) 0 i
theorem lsu_s {s : Int} (h : 0 ≤ i) : lsu D s l (i + 1) = lsu D s l i + len D s l i := itr_succ h
theorem lsu_e (D : GDt) (s l : Int) (hn : 0 ≤ dN D) : lsu D s l (dN D) = lns D s l := (lns_i D s l (dN D) hn).symm
theorem lsu_r (h : GOK D) (hi : 0 ≤ i ∧ i ≤ dN D) (hlr : (-60 ≤ l ∧ l ≤ 60) ∧ (-60 ≤ r ∧ r ≤ 60) ∧ (-8 ≤ r - l ∧ r - l ≤ 8)) : -16800000 ≤ lsu D (r - l) l i ∧ lsu D (r - l) l i ≤ 16800000 := by
  have e : lsu D (r - l) l i = bsu D (r - l) i + wsu D i * l * spn D := (lns_i D (r - l) l i hi.1).symm
  have := lnsr_i h hi hlr
  omega
theorem jb1 (h : GOK D) (hi : 0 ≤ i ∧ i < dN D) : (0 ≤ spn D * lst (dB D i) ∧ spn D * lst (dB D i) ≤ 40000) ∧ spn D * lst (dB D i) = lst (dB D i) * spn D := by
  have h1 := h.sp
  have h2 := lst_r (dB D i)
  have h3 := Int.mul_nonneg (a := spn D) (b := lst (dB D i)) (by omega) (by omega)
  have h4 := am_mul_b (a := spn D) (b := lst (dB D i)) (A := 2520) (B := 13) (by omega) (by omega)
  exact ⟨⟨h3, by omega⟩, Int.mul_comm _ _⟩
theorem jb2 (h : GOK D) (hi : 0 ≤ i ∧ i < dN D) : 0 ≤ ideal D i * spn D ∧ ideal D i * spn D ≤ 61000 := by
  have h1 := h.sp
  have h2 := ideal_r h hi
  have h3 := Int.mul_nonneg (a := ideal D i) (b := spn D) (by omega) (by omega)
  have h4 := am_mul_b (a := ideal D i) (b := spn D) (A := 24) (B := 2520) (by omega) (by omega)
  exact ⟨h3, by omega⟩
theorem jlen (l r i : Int) {e : Int} (he : e = l * (spn D - dX D i) + r * dX D i - 2 * dH D i * spn D) : (0 < way D i → e = len D (r - l) l i) ∧ (way D i ≤ 0 → -e = len D (r - l) l i) := by
  have h := len_lr D l r i
  rw [← he] at h
  rcases way_r D i with q | q <;> rw [q] at h <;> rw [q]
  · exact ⟨fun _ => by omega, fun z => by omega⟩
  · exact ⟨fun z => by omega, fun _ => by omega⟩
theorem jlst (hb : 1 ≤ dB D i ∧ dB D i ≤ 3) : (if dB D i = 1 then (10 : Int) else if dB D i = 2 then 11 else 13) = lst (dB D i) := by unfold lst; omega
theorem jusu (hb : 1 ≤ dB D i ∧ dB D i ≤ 3) : (if dB D i = 1 then (14 : Int) else if dB D i = 2 then 15 else 17) = usu (dB D i) := by unfold usu; omega
theorem jidl {z : Int} (hh : -12 ≤ dH D i ∧ dH D i ≤ 12) (hz : (0 < way D i → z = -2 * dH D i) ∧ (way D i ≤ 0 → z = 2 * dH D i)) : max (usu (dB D i)) z = ideal D i := by
  have hu := usu_r (dB D i)
  unfold ideal idl ab
  rcases way_r D i with q | q <;> rw [q] at hz ⊢
  · have := hz.1 (by decide); omega
  · have := hz.2 (by decide); omega
theorem joff {s : Int} (h : len D s l i < ideal D i * spn D) : offc D s l i = 2 * (ideal D i * spn D - len D s l i) := by unfold offc; rw [if_pos (by omega)]; omega
theorem joff' {s : Int} (h : ideal D i * spn D ≤ len D s l i) : offc D s l i = len D s l i - ideal D i * spn D := by unfold offc; rw [if_neg (by omega)]
theorem jslp {s a : Int} (hs : -8 ≤ s ∧ s ≤ 8) (ha : a = if 0 ≤ s - want D then s - want D else -(s - want D)) : 6 * a + (if sgn s * sgn (want D) < 0 then 20 else 0) = slp D s := by
  have h1 := mulneg s (want D)
  have h2 := mulneg (sgn s) (sgn (want D))
  have e1 : ∀ z : Int, (0 < sgn z ↔ 0 < z) ∧ (sgn z < 0 ↔ z < 0) := by intro z; unfold sgn; split <;> (try split) <;> omega
  have := e1 s
  have := e1 (want D)
  have e2 : (sgn s * sgn (want D) < 0) ↔ s * want D < 0 := by rw [h1, h2]; omega
  unfold slp ab
  simp only [e2, ha]
theorem sgn_b (s w : Int) : -1 ≤ sgn s * sgn w ∧ sgn s * sgn w ≤ 1 := by
  have e1 : ∀ z : Int, sgn z = -1 ∨ sgn z = 0 ∨ sgn z = 1 := by intro z; unfold sgn; split <;> (try split) <;> simp
  rcases e1 s with h | h | h <;> rcases e1 w with q | q | q <;> rw [h, q] <;> decide
theorem sgn_r (s : Int) : -1 ≤ sgn s ∧ sgn s ≤ 1 := by unfold sgn; split <;> (try split) <;> omega
/-- the first and the last note, the heights there -/
def eI (D : GDt) (e : Int) : Int := if e = 0 then 0 else dN D - 1
def eO (l r e : Int) : Int := if e = 0 then l else r
def eT (l r e : Int) : Int := if e = 0 then r else l
def stfE (D : GDt) (l r e : Int) : Int := if e = 0 then 0 else if e = 1 then eco D 0 l (r - l) else stf D (r - l) l
theorem stfE_s {e : Int} (he : 0 ≤ e ∧ e < 2) : stfE D l r (e + 1) = stfE D l r e + eco D (eI D e) (eO l r e) (eT l r e - eO l r e) := by
  have : e = 0 ∨ e = 1 := by omega
  rcases this with rfl | rfl
  · show eco D 0 l (r - l) = 0 + eco D 0 l (r - l); omega
  · show stf D (r - l) l = eco D 0 l (r - l) + eco D (dN D - 1) r (l - r)
    unfold stf
    rw [show l + (r - l) = r by omega, show -(r - l) = l - r by omega]
theorem eI_r (h : GOK D) (e : Int) : 0 ≤ eI D e ∧ eI D e < dN D := by have := h.n; unfold eI; split <;> omega
theorem eOT (l r e : Int) : (eT l r e = eO l r e ↔ l = r) ∧ ((-60 ≤ l ∧ l ≤ 60) ∧ (-60 ≤ r ∧ r ≤ 60) → (-60 ≤ eO l r e ∧ eO l r e ≤ 60) ∧ (-60 ≤ eT l r e ∧ eT l r e ≤ 60)) := by unfold eT eO; split <;> omega
theorem way3 (D : GDt) (i k : Int) : 3 * k * way D i = way D i * 3 * k := by rcases way_r D i with q | q <;> rw [q] <;> omega
theorem tco_v {h r v : Int} (hv : ((h < -9 ∨ 9 < h) ∧ v = 0) ∨ ((-9 ≤ h ∧ h ≤ 9) ∧ ((h % 4 = 2 ∧ v = 25) ∨ (h % 4 = 0 ∧ r = 0 ∧ v = 2) ∨ (h % 4 = 0 ∧ ¬ r = 0 ∧ v = 1) ∨ (h % 4 = 1 ∧ r < 0 ∧ v = 8) ∨ (h % 4 = 1 ∧ ¬ r < 0 ∧ v = 0) ∨ (h % 4 = 3 ∧ 0 < r ∧ v = 8) ∨ (h % 4 = 3 ∧ ¬ 0 < r ∧ v = 0)))) : tco h r = v := by
  unfold tco
  split
  · omega
  · split
    · split <;> omega
    · split
      · split <;> omega
      · split
        · omega
        · split <;> omega
theorem tcs {D : GDt} {i h r k sf m m2 : Int} (hm : m = sf + ecs D i h r k) (hk : 0 ≤ k) (hv : ((h - way D i * 3 * k < -9 ∨ 9 < h - way D i * 3 * k) ∧ m2 = m) ∨ ((-9 ≤ h - way D i * 3 * k ∧ h - way D i * 3 * k ≤ 9) ∧ (((h - way D i * 3 * k) % 4 = 2 ∧ m2 = m + 25) ∨ ((h - way D i * 3 * k) % 4 = 0 ∧ r = 0 ∧ m2 = m + 2) ∨ ((h - way D i * 3 * k) % 4 = 0 ∧ ¬ r = 0 ∧ m2 = m + 1) ∨ ((h - way D i * 3 * k) % 4 = 1 ∧ r < 0 ∧ m2 = m + 8) ∨ ((h - way D i * 3 * k) % 4 = 1 ∧ ¬ r < 0 ∧ m2 = m) ∨ ((h - way D i * 3 * k) % 4 = 3 ∧ 0 < r ∧ m2 = m + 8) ∨ ((h - way D i * 3 * k) % 4 = 3 ∧ ¬ 0 < r ∧ m2 = m)))) : m2 = sf + ecs D i h r (k + 1) := by
  have e : m2 = m + tco (h - way D i * 3 * k) r := by
    generalize h - way D i * 3 * k = x at hv ⊢
    rcases hv with ⟨a, b⟩ | ⟨a, ⟨b, c⟩ | ⟨b, c, d⟩ | ⟨b, c, d⟩ | ⟨b, c, d⟩ | ⟨b, c, d⟩ | ⟨b, c, d⟩ | ⟨b, c, d⟩⟩
    · rw [tco_v (v := 0) (Or.inl ⟨a, rfl⟩)]; omega
    · rw [tco_v (v := 25) (Or.inr ⟨a, Or.inl ⟨b, rfl⟩⟩)]; exact c
    · rw [tco_v (v := 2) (Or.inr ⟨a, Or.inr (Or.inl ⟨b, c, rfl⟩)⟩)]; exact d
    · rw [tco_v (v := 1) (Or.inr ⟨a, Or.inr (Or.inr (Or.inl ⟨b, c, rfl⟩))⟩)]; exact d
    · rw [tco_v (v := 8) (Or.inr ⟨a, Or.inr (Or.inr (Or.inr (Or.inl ⟨b, c, rfl⟩)))⟩)]; exact d
    · rw [tco_v (v := 0) (Or.inr ⟨a, Or.inr (Or.inr (Or.inr (Or.inr (Or.inl ⟨b, c, rfl⟩))))⟩)]; omega
    · rw [tco_v (v := 8) (Or.inr ⟨a, Or.inr (Or.inr (Or.inr (Or.inr (Or.inr (Or.inl ⟨b, c, rfl⟩)))))⟩)]; exact d
    · rw [tco_v (v := 0) (Or.inr ⟨a, Or.inr (Or.inr (Or.inr (Or.inr (Or.inr (Or.inr ⟨b, c, rfl⟩)))))⟩)]; omega
  rw [ecs_s hk, e, hm]
  omega
/-- the order of settings -/
def ahI (s l r a s2 l2 r2 b up : Int) : Int := if ¬ s = s2 then (if s < s2 then 1 else 0) else if ¬ ab (r - l) = ab (r2 - l2) then (if ab (r - l) < ab (r2 - l2) then 1 else 0) else if ¬ a = b then (if a < b then 1 else 0) else if ¬ l = l2 then (if up * l < up * l2 then 1 else 0) else (if up * r < up * r2 then 1 else 0)
end lsums
