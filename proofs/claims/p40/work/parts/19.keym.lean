/-! ===== The key of a setting that is allowed ===== -/
theorem lns_i (D : GDt) (s l : Int) : ∀ i, 0 ≤ i → bsu D s i + wsu D i * l * spn D = itr (fun j a => a + len D s l j) 0 i := by
  intro i hi
  obtain ⟨m, rfl⟩ : ∃ m : Nat, i = m := ⟨i.toNat, by omega⟩
  clear hi
  induction m with
  | zero => simp [bsu, wsu, itr_0]
  | succ m ih =>
    rw [show ((m + 1 : Nat) : Int) = (m : Int) + 1 by omega, bsu_s (by omega), wsu_s (by omega), itr_succ (by omega), ← ih, Int.add_mul, Int.add_mul]
    unfold len
    omega
theorem alw_len {D : GDt} {s l i : Int} (h : GOK D) (ha : alw D s l) (hi : 0 ≤ i ∧ i < dN D) : (10 * spn D ≤ len D s l i ∧ len D s l i ≤ 44 * spn D) ∧ 0 ≤ len D s l i := by
  have h1 := ha i hi.1 hi.2
  have h2 := h.sp
  have h3 := lst_r (dB D i)
  have h4 := Int.mul_le_mul_of_nonneg_right h3.1 (show 0 ≤ spn D by omega)
  unfold okN at h1
  omega
theorem lns_r {D : GDt} {s l : Int} (h : GOK D) (ha : alw D s l) : 0 ≤ lns D s l ∧ lns D s l ≤ 7096320 := by
  have hn := h.n
  have h2 := h.sp
  have h1 := itr_indn (g := fun j a => a + len D s l j) (a := 0) (n := dN D) (fun i x => 0 ≤ x ∧ x ≤ 110880 * i) (by simp) (fun j x h1 h2 h3 => by have := alw_len h ha ⟨h1, h2⟩; omega) (dN D) (by omega) (by omega)
  rw [← lns_i D s l (dN D) (by omega)] at h1
  unfold lns
  omega
theorem offc_a {D : GDt} {s l i : Int} (h : GOK D) (ha : alw D s l) (hi : 0 ≤ i ∧ i < dN D) : 0 ≤ offc D s l i ∧ offc D s l i ≤ 88 * spn D := by
  have h1 := alw_len h ha hi
  have h2 := h.sp
  have h3 := ideal_r h hi
  have h4 := Int.mul_le_mul_of_nonneg_right h3.1 (show 0 ≤ spn D by omega)
  have h5 := Int.mul_le_mul_of_nonneg_right h3.2 (show 0 ≤ spn D by omega)
  unfold offc
  omega
theorem stm_a {D : GDt} {s l : Int} (h : GOK D) (ha : alw D s l) : 0 ≤ stm D s l ∧ stm D s l ≤ 5632 := by
  have hn := h.n
  have h2 := h.sp
  have h1 := itr_indn (g := fun j a => a + offc D s l j) (a := 0) (n := dN D) (fun i x => 0 ≤ x ∧ x ≤ (88 * spn D) * i) (by simp) (fun j x h1 h2 h3 => by
    have := offc_a h ha ⟨h1, h2⟩
    rw [Int.mul_add, Int.mul_one]
    omega) (dN D) (by omega) (by omega)
  have h3 := Int.mul_le_mul_of_nonneg_left (show dN D ≤ 64 by omega) (show 0 ≤ 88 * spn D by omega)
  constructor
  · exact Int.ediv_nonneg h1.1 (by omega)
  · refine Int.ediv_le_of_le_mul (by omega) ?_
    show itr (fun j a => a + offc D s l j) 0 (dN D) ≤ _
    omega
theorem ugl_r {D : GDt} {s l : Int} (h : GOK D) (ha : alw D s l) (hs : -8 ≤ s ∧ s ≤ 8) : 0 ≤ ugl D s l ∧ ugl D s l ≤ 5880 := by
  have h1 := stm_a h ha
  have h2 := slp_r D hs
  have h3 := stf_r h s l
  unfold ugl
  omega
theorem key_d {D : GDt} {s l : Int} (h : GOK D) (ha : alw D s l) (hi : inS s l) :
    key D s l = (((ugl D s l * 16 + ab s) * 16777216 + lns D s l) * 128 + (60 + way D 0 * l)) * 128 + (60 + way D 0 * (l + s)) ∧ (0 ≤ ugl D s l ∧ ugl D s l ≤ 5880) ∧ (0 ≤ ab s ∧ ab s ≤ 8) ∧ (0 ≤ lns D s l ∧ lns D s l ≤ 7096320) ∧ (-60 ≤ way D 0 * l ∧ way D 0 * l ≤ 60) ∧ (-60 ≤ way D 0 * (l + s) ∧ way D 0 * (l + s) ≤ 60) := by
  obtain ⟨⟨h1, h2⟩, h3⟩ := hi
  refine ⟨by unfold key lns; omega, ugl_r h ha h3, by unfold ab; omega, lns_r h ha, ?_, ?_⟩
  · rcases way_r D 0 with q | q <;> rw [q] <;> omega
  · rcases way_r D 0 with q | q <;> rw [q] <;> omega
theorem key_r {D : GDt} {s l : Int} (h : GOK D) (ha : alw D s l) (hi : inS s l) : 0 ≤ key D s l ∧ key D s l < 30000000000000000 := by
  have := key_d h ha hi
  omega
theorem key_ug {D : GDt} {s l : Int} (h : GOK D) (ha : alw D s l) (hi : inS s l) : key D s l / 4398046511104 = ugl D s l := by
  have := key_d h ha hi
  omega
theorem key_l {D : GDt} {s l : Int} (h : GOK D) (ha : alw D s l) (hi : inS s l) : way D 0 * (key D s l / 128 % 128 - 60) = l := by
  have h1 := key_d h ha hi
  rw [show key D s l / 128 % 128 - 60 = way D 0 * l by omega]
  rcases way_r D 0 with q | q <;> rw [q] <;> omega
theorem key_rr {D : GDt} {s l : Int} (h : GOK D) (ha : alw D s l) (hi : inS s l) : way D 0 * (key D s l % 128 - 60) = l + s := by
  have h1 := key_d h ha hi
  rw [show key D s l % 128 - 60 = way D 0 * (l + s) by omega]
  rcases way_r D 0 with q | q <;> rw [q] <;> omega
theorem key_inj {D : GDt} {s l s' l' : Int} (h : GOK D) (ha : alw D s l) (hi : inS s l) (ha' : alw D s' l') (hi' : inS s' l') (e : key D s l = key D s' l') : s = s' ∧ l = l' := by
  have h1 := key_l h ha hi
  have h2 := key_l h ha' hi'
  have h3 := key_rr h ha hi
  have h4 := key_rr h ha' hi'
  rw [e, h2] at h1
  rw [e, h4] at h3
  omega
/-- the first stem is whole: few heights by one slope -/
theorem alw_few {D : GDt} {s l l' : Int} (h : GOK D) (ha : alw D s l) (ha' : alw D s l') : l' - l ≤ 34 := by
  have hn := h.n
  have h2 := h.sp
  have h1 := (alw_len h ha (i := 0) (by omega)).1
  have h3 := (alw_len h ha' (i := 0) (by omega)).1
  unfold len at h1 h3
  by_cases hc : l' - l ≤ 34
  · exact hc
  · exfalso
    have h5 := Int.mul_le_mul_of_nonneg_right (show 35 ≤ l' - l by omega) (show 0 ≤ spn D by omega)
    rw [Int.sub_mul] at h5
    rcases way_r D 0 with q | q
    · simp only [q, Int.one_mul] at h1 h3
      omega
    · simp only [q, Int.neg_mul, Int.one_mul] at h1 h3
      omega
/-- none, or the key of a setting that is allowed -/
def isK (D : GDt) (z : Int) : Prop := z = 9223372036854775807 ∨ ∃ s l, inS s l ∧ alw D s l ∧ z = key D s l
theorem isK_r {D : GDt} {z : Int} (h : GOK D) (hz : isK D z) : 0 ≤ z ∧ z ≤ 9223372036854775807 := by
  rcases hz with rfl | ⟨s, l, h1, h2, rfl⟩
  · omega
  · have := key_r h h2 h1
    omega
/-- the best one: none, or a key that no other is less than -/
def bstK (D : GDt) (z : Int) : Prop := isK D z ∧ ∀ s l, inS s l → alw D s l → z ≤ key D s l
theorem isK_min {D : GDt} {a b : Int} (ha : isK D a) (hb : isK D b) : isK D (min a b) := by
  by_cases h : a ≤ b
  · rw [Int.min_eq_left h]; exact ha
  · rw [Int.min_eq_right (by omega)]; exact hb
/-- what is beyond is not less -/
theorem key_far {D : GDt} {s l z : Int} (h : GOK D) (ha : alw D s l) (hi : inS s l) (hz : z / 4398046511104 < ugl D s l) : z ≤ key D s l := by
  have h1 := key_ug h ha hi
  omega
theorem ugl_ge {D : GDt} {s l : Int} (h : GOK D) : slp D s + stm D s l ≤ ugl D s l := by
  have := stf_r h s l
  unfold ugl
  omega
theorem TL.al2 {D : GDt} {s l : Int} {μ : Mu} (h : TL D s μ) (hi : inL s l) : (μ 6 16 ≤ l ∧ l ≤ μ 6 17) ↔ alw D s l := by
  rw [h.al]
  exact ⟨fun q => q.2, fun q => ⟨hi, q⟩⟩
def tls (D : GDt) (s l w : Int) : Int := if w = 3 then stm D s l else if w = 4 then slp D s else if w = 5 then stf D s l else ugl D s l
def tlv (D : GDt) (s l w : Int) : Int := if w = 0 then l else if w = 1 then l + s else if w = 2 then ugl D s l else tls D s l w
theorem bsl_skip {D : GDt} {s l b : Int} (h : GOK D) (hal : inL s l ∧ alw D s l) (his : inS s l) (hc : b / 4398046511104 < slp D s + stm D s l)
    (hb : ∀ l', inS s l' → alw D s l' → l' < l → b ≤ key D s l') : ∀ l', inS s l' → alw D s l' → l' < l + 1 → b ≤ key D s l' := by
  intro l' h1 h2 h3
  by_cases hl : l' = l
  · subst hl
    exact key_far h h2 h1 (by have := ugl_ge (s := s) (l := l') h; omega)
  · exact hb l' h1 h2 (by omega)
theorem bsl_take {D : GDt} {s l b : Int} (hb : ∀ l', inS s l' → alw D s l' → l' < l → b ≤ key D s l') : ∀ l', inS s l' → alw D s l' → l' < l + 1 → min b (key D s l) ≤ key D s l' := by
  intro l' h1 h2 h3
  by_cases hl : l' = l
  · subst hl; omega
  · have := hb l' h1 h2 (by omega)
    omega
theorem fb_1 {D : GDt} {f z a : Int} (ha : a = 0) (hz : ∀ l, inS (want D - a) l → alw D (want D - a) l → z ≤ key D (want D - a) l) : ∀ s l, inS s l → alw D s l → ab (s - want D) < a + 1 → z ≤ key D s l := by
  intro s l h1 h2 h3
  have : s = want D - a := by unfold ab at h3; omega
  subst this
  exact hz l h1 h2
theorem fb_2 {D : GDt} {f z1 z2 a : Int} (hf : ∀ s l, inS s l → alw D s l → ab (s - want D) < a → f ≤ key D s l) (h1 : z1 ≤ f) (h2 : z2 ≤ z1) (hz1 : ∀ l, inS (want D - a) l → alw D (want D - a) l → z1 ≤ key D (want D - a) l) (hz2 : ∀ l, inS (want D + a) l → alw D (want D + a) l → z2 ≤ key D (want D + a) l) :
    ∀ s l, inS s l → alw D s l → ab (s - want D) < a + 1 → z2 ≤ key D s l := by
  intro s l q1 q2 q3
  by_cases c : ab (s - want D) < a
  · have := hf s l q1 q2 c
    omega
  · have : s = want D - a ∨ s = want D + a := by unfold ab at q3 c; omega
    rcases this with e | e
    · subst e
      have := hz1 l q1 q2
      omega
    · subst e
      exact hz2 l q1 q2
theorem fb_end {D : GDt} {f a : Int} (h : GOK D) (hk : isK D f) (hf : ∀ s l, inS s l → alw D s l → ab (s - want D) < a → f ≤ key D s l) (hc : 13 < a ∨ f / 4398046511104 < 6 * a) : bstK D f := by
  refine ⟨hk, fun s l h1 h2 => ?_⟩
  by_cases c : ab (s - want D) < a
  · exact hf s l h1 h2 c
  · have h3 := want_r D
    have h4 := slp_r D h1.2
    have h5 := ugl_ge (s := s) (l := l) h
    have h6 := (stm_a h h2).1
    have h7 : -8 ≤ s ∧ s ≤ 8 := h1.2
    rcases hc with q | q
    · exfalso
      unfold ab at c
      omega
    · exact key_far h h2 h1 (by omega)
def slK (D : GDt) (s c z : Int) : Prop := z = c ∨ ∃ l, inS s l ∧ alw D s l ∧ z = key D s l
theorem slK_0 {D : GDt} {s c : Int} : slK D s c c := Or.inl rfl
theorem slK_min {D : GDt} {b c s l : Int} (hb : slK D s c b) (hs : inS s l) (ha : alw D s l) : slK D s c (min b (key D s l)) := by
  by_cases h : b ≤ key D s l
  · rw [Int.min_eq_left h]; exact hb
  · rw [Int.min_eq_right (by omega)]; exact Or.inr ⟨l, hs, ha, rfl⟩
