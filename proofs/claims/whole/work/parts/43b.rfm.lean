/-! ===== Words for the reference's public methods: ranks, divisors, beams beside ===== -/
theorem rowL_get (S : List Int) : rowL (fun i => (S[i.toNat]?).getD 0) (S.length : Int) = S := by
  unfold rowL
  apply List.ext_getElem?
  intro i
  rw [List.getElem?_map]
  by_cases hi : i < S.length
  · rw [List.getElem?_range (by omega)]
    simp [List.getElem?_eq_getElem hi]
  · rw [List.getElem?_eq_none (by rw [List.length_range]; omega), List.getElem?_eq_none (by omega)]; rfl
theorem srt_get {S : List Int} (h : S.Pairwise (fun a b => a ≤ b)) : srt (fun i => (S[i.toNat]?).getD 0) (S.length : Int) := by
  intro a b h1 h2 h3
  have h4 := List.pairwise_iff_getElem.mp h a.toNat b.toNat (by omega) (by omega) (by omega)
  show (S[a.toNat]?).getD 0 ≤ (S[b.toNat]?).getD 0
  rw [List.getElem?_eq_getElem (by omega), List.getElem?_eq_getElem (by omega)]
  exact h4
theorem nS_kl (D : GDt) : nS D = cnD D := by unfold nS cN cnD kl; rw [List.length_map]; rfl
/-- each rank is some setting's -/
theorem rk_ex {D : GDt} (h : GOK D) {k : Int} (hk : 0 ≤ k ∧ k < nS D) : ∃ j, (0 ≤ j ∧ j < nS D) ∧ rkI D j (nS D) = k := by
  have hp := List.mergeSort_perm (kl D) (fun (a b : Int) => decide (a ≤ b))
  have hs : ((kl D).mergeSort (fun (a b : Int) => decide (a ≤ b))).Pairwise (fun a b => a ≤ b) := by
    have h9 := List.pairwise_mergeSort (le := fun (a b : Int) => decide (a ≤ b)) (fun a b c h1 h2 => by simp only [decide_eq_true_eq] at *; omega) (fun a b => by simp only [Bool.or_eq_true, decide_eq_true_eq]; omega) (kl D)
    exact h9.imp (fun h8 => by simpa using h8)
  generalize (kl D).mergeSort (fun (a b : Int) => decide (a ≤ b)) = S at hp hs
  have hl : (S.length : Int) = nS D := by rw [nS_kl]; unfold cnD; rw [hp.length_eq]
  have h1 := srt_get hs
  have h2 := rowL_get S
  generalize hf : (fun (i : Int) => (S[i.toNat]?).getD 0) = f at h1 h2
  rw [hl] at h1 h2
  have h3 : f k ∈ kl D := by
    refine hp.mem_iff.mp ?_
    rw [← h2]
    exact rowL_mem.mpr ⟨k, hk, rfl⟩
  have h4 := srt_cnt h1 (rowL_nd' (by rw [h2]; exact hp.nodup_iff.mpr (kl_nd h))) hk
  rw [cntlt_L (nS_0 D), h2, hp.countP_eq] at h4
  unfold kl at h3
  obtain ⟨q, hq, e⟩ := List.mem_map.mp h3
  obtain ⟨j, hj, e2⟩ := sq_all hq
  refine ⟨j, hj, ?_⟩
  rw [rkI_eq, e2, e]
  exact h4
def gcI (x y : Int) : Int := (Nat.gcd x.toNat y.toNat : Nat)
theorem gcI_0 {x : Int} (h : 0 ≤ x) : gcI x 0 = x := by
  unfold gcI
  rw [show ((0 : Int)).toNat = 0 from rfl, Nat.gcd_zero_right]
  omega
theorem gcI_s {x y : Int} (hx : 0 ≤ x) (hy : 0 ≤ y) : gcI y (x % y) = gcI x y := by
  unfold gcI
  rw [Int.toNat_emod hx hy, Nat.gcd_comm y.toNat, ← Nat.gcd_rec, Nat.gcd_comm]
theorem gcI_p {x y : Int} (hy : 0 < y) : 0 < gcI x y := by
  unfold gcI
  have := Nat.gcd_pos_of_pos_right x.toNat (show 0 < y.toNat by omega)
  omega
theorem gdN_0 {k : Nat} {x : Int} : gdN k x 0 = x := by cases k <;> rfl
theorem gdN_s {k : Nat} {x y : Int} (h : ¬ y = 0) : gdN (k + 1) x y = gdN k y (x % y) := by
  show (if y = 0 then x else gdN k y (x % y)) = _
  rw [if_neg h]
theorem gdN_gc : ∀ (m k : Nat) (x y : Int), 0 ≤ x → 0 ≤ y → y < 2 ^ m → 2 * m + 1 ≤ k → gdN k x y = gcI x y := by
  intro m
  induction m with
  | zero =>
    intro k x y h1 h2 h3 h4
    have : y = 0 := by omega
    subst this
    rw [gdN_0, gcI_0 h1]
  | succ m ih =>
    intro k x y h1 h2 h3 h4
    by_cases hy : y = 0
    · subst hy; rw [gdN_0, gcI_0 h1]
    · obtain ⟨k1, rfl⟩ : ∃ k1, k = k1 + 2 := ⟨k - 2, by omega⟩
      have hr0 := Int.emod_nonneg x hy
      have hr1 := Int.emod_lt_of_pos x (show 0 < y by omega)
      rw [gdN_s hy, ← gcI_s h1 h2]
      generalize x % y = r at hr0 hr1
      by_cases hr : r = 0
      · subst hr; rw [gdN_0, gcI_0 h2]
      · have hq0 := Int.emod_nonneg y hr
        have hq1 := Int.emod_lt_of_pos y (show 0 < r by omega)
        have e1 := Int.emod_add_mul_ediv y r
        have e2 : 1 ≤ y / r := Int.le_ediv_of_mul_le (by omega) (by omega)
        have e3 : r * 1 ≤ r * (y / r) := Int.mul_le_mul_of_nonneg_left e2 (by omega)
        rw [gdN_s hr, ← gcI_s h2 hr0]
        refine ih k1 r (y % r) hr0 hq0 ?_ (by omega)
        rw [Int.pow_succ] at h3
        omega
theorem gdS_gc {x y : Int} (hx : 0 ≤ x) (hy : 0 ≤ y ∧ y ≤ 1000000) : gdS 0 x y = gcI x y := by
  have h2 : (2 : Int) ^ 40 = 1099511627776 := by decide
  exact gdN_gc 40 100 x y hx hy.1 (by rw [h2]; omega) (by omega)
theorem ab_0 (a : Int) : 0 ≤ ab a := by unfold ab; split <;> omega
theorem gcI_f (x y : Int) (hy : 0 < y) : 0 < gcI x y := gcI_p hy
theorem gcI_le {x y : Int} (hy : 0 < y) : gcI x y ≤ y := by
  unfold gcI
  have := Nat.gcd_le_right x.toNat (show 0 < y.toNat by omega)
  omega
/-- what stem() tells, told by the reference -/
theorem stmA_r {D : GDt} {a w v by_ : Int} (hok : GOK D) (hn : ¬ mnK D = 9223372036854775807) (hv : v = stmV D a w) (hb : by_ = gcI (ab v) (ab (spn D))) (z : Int) (hz : z = Int.tdiv (if w % 2 = 0 then v else spn D) by_) : z = stmA D a w := by
  subst hv
  have hs := hok.sp
  have h1 : ab (spn D) = spn D := by unfold ab; rw [if_pos (by omega)]
  rw [h1] at hb
  have h2 := gcI_p (x := ab (stmV D a w)) (y := spn D) (by omega)
  unfold stmA
  rw [if_neg hn, gdS_gc (ab_0 _) (by omega), ← hb, hz, show max 1 by_ = by_ by omega]
/-- the beams of a neighbour of the same group -/
def bmn (μ : Mu) (p i k : Int) : Int := if tgt μ p i k then bmz μ p k else 0
theorem bmn_r (μ : Mu) (p i k : Int) : 0 ≤ bmn μ p i k ∧ bmn μ p i k ≤ 3 := by
  unfold bmn
  have := bmz_r μ p k
  split <;> omega
theorem bml_n (μ : Mu) (p i : Int) : bml μ p i = min (bmz μ p i) (bmn μ p i (i - 1)) := by
  unfold bml bmn
  have := bmz_r μ p i
  split <;> omega
theorem bmr_n (μ : Mu) (p i : Int) : bmr μ p i = min (bmz μ p i) (bmn μ p i (i + 1)) := by
  unfold bmr bmn
  have := bmz_r μ p i
  split <;> omega
/-- in a group all are notes -/
theorem CJ.bg {μ : Mu} {p i : Int} (h : CJ μ p) (hi : 0 ≤ i ∧ i < μ p 7) (hg : 0 ≤ μ (p + 8) i) : bmz μ p i = bok (μ (p + 3) i) ∧ μ (p + 4) i = 1 := by
  have h1 := h.pg.go2 hi hg
  have h2 := h.pg.go hi
  have h3 := h.pg.of (g := μ (p + 8) i) ⟨hg, h2.2⟩ h1
  refine ⟨?_, h3.2.1⟩
  unfold bmz
  rw [if_neg (by omega)]
theorem bmn_b {μ : Mu} {p i k : Int} (h : CJ μ p) (ht : tgt μ p i k) : bmn μ p i k = bok (μ (p + 3) k) := by
  unfold bmn
  rw [if_pos ht]
  exact (h.bg ⟨ht.2.1, ht.2.2.2.1⟩ (by have := ht.2.2.2.2; omega)).1
theorem bmn_no {μ : Mu} {p i k : Int} (ht : ¬ tgt μ p i k) : bmn μ p i k = 0 := by unfold bmn; rw [if_neg ht]
theorem tgt_l {μ : Mu} {p i : Int} (h : CJ μ p) (hi : 0 ≤ i ∧ i < μ p 7) (hg : 0 ≤ μ (p + 8) i) : tgt μ p i (i - 1) ↔ ¬ i = μ (p + 9) (μ (p + 8) i) := by
  have h1 := h.pg.go2 hi hg
  have h2 := h.pg.go hi
  have h3 := h.pg.fl (g := μ (p + 8) i) ⟨hg, h2.2⟩
  constructor
  · rintro ⟨a1, a2, a3, a4, a5, a6⟩ e
    have h4 := h.pg.go2 (i := i - 1) ⟨a2, a4⟩ (by omega)
    rw [← a6] at h4
    omega
  · intro e
    have h4 := h.pg.of (g := μ (p + 8) i) (i := i - 1) ⟨hg, h2.2⟩ (by omega)
    exact ⟨by omega, by omega, by omega, by omega, hg, h4.1.symm⟩
theorem tgt_r {μ : Mu} {p i : Int} (h : CJ μ p) (hi : 0 ≤ i ∧ i < μ p 7) (hg : 0 ≤ μ (p + 8) i) : tgt μ p i (i + 1) ↔ ¬ i = μ (p + 9) (μ (p + 8) i) + μ (p + 10) (μ (p + 8) i) - 1 := by
  have h1 := h.pg.go2 hi hg
  have h2 := h.pg.go hi
  have h3 := h.pg.fl (g := μ (p + 8) i) ⟨hg, h2.2⟩
  constructor
  · rintro ⟨a1, a2, a3, a4, a5, a6⟩ e
    have h4 := h.pg.go2 (i := i + 1) ⟨a2, a4⟩ (by omega)
    rw [← a6] at h4
    omega
  · intro e
    have h4 := h.pg.of (g := μ (p + 8) i) (i := i + 1) ⟨hg, h2.2⟩ (by omega)
    exact ⟨by omega, by omega, by omega, by omega, hg, h4.1.symm⟩
theorem mlg_u {b u : Int} (hb : 1 ≤ b ∧ b ≤ 12) (hu : u = 2 ∨ u = 4 ∨ u = 8) : b * 32 / u = b * blg u ∧ 32 / u = blg u := by
  have e1 : blg 2 = 16 := rfl
  have e2 : blg 4 = 8 := rfl
  have e3 : blg 8 = 4 := rfl
  rcases hu with rfl | rfl | rfl
  · rw [e1]; omega
  · rw [e2]; omega
  · rw [e3]; omega
/-- the best level setting, as the reference finds it -/
def lvI (D : GDt) (i : Int) : Int := itr (fun j b => if (sq D j).1 = (sq D j).2 ∧ (b = -1 ∨ keyq D (sq D j) < keyq D (sq D b)) then j else b) (-1) i
theorem lvI_s {D : GDt} {i : Int} (h : 0 ≤ i) : lvI D (i + 1) = if (sq D i).1 = (sq D i).2 ∧ (lvI D i = -1 ∨ keyq D (sq D i) < keyq D (sq D (lvI D i))) then i else lvI D i := itr_succ h
theorem lvI_m {D : GDt} : ∀ i, 0 ≤ i → (lvI D i = -1 ∧ ∀ j, 0 ≤ j → j < i → ¬ (sq D j).1 = (sq D j).2) ∨ ((0 ≤ lvI D i ∧ lvI D i < i) ∧ (sq D (lvI D i)).1 = (sq D (lvI D i)).2 ∧ ∀ j, 0 ≤ j → j < i → (sq D j).1 = (sq D j).2 → keyq D (sq D (lvI D i)) ≤ keyq D (sq D j)) := by
  refine itr_ind (fun i b => (b = -1 ∧ ∀ j, 0 ≤ j → j < i → ¬ (sq D j).1 = (sq D j).2) ∨ ((0 ≤ b ∧ b < i) ∧ (sq D b).1 = (sq D b).2 ∧ ∀ j, 0 ≤ j → j < i → (sq D j).1 = (sq D j).2 → keyq D (sq D b) ≤ keyq D (sq D j))) (Or.inl ⟨rfl, fun j h1 h2 => by omega⟩) ?_
  intro i b h0 h
  by_cases he : (sq D i).1 = (sq D i).2
  · rcases h with ⟨hb, h⟩ | ⟨hb, hb2, h⟩
    · rw [if_pos ⟨he, Or.inl hb⟩]
      refine Or.inr ⟨by omega, he, fun j h1 h2 h3 => ?_⟩
      by_cases e : j = i
      · subst e; exact Int.le_refl _
      · exact absurd h3 (h j h1 (by omega))
    · by_cases hc : keyq D (sq D i) < keyq D (sq D b)
      · rw [if_pos ⟨he, Or.inr hc⟩]
        refine Or.inr ⟨by omega, he, fun j h1 h2 h3 => ?_⟩
        by_cases e : j = i
        · subst e; exact Int.le_refl _
        · have := h j h1 (by omega) h3
          omega
      · rw [if_neg (by rintro ⟨-, q | q⟩ <;> omega)]
        refine Or.inr ⟨by omega, hb2, fun j h1 h2 h3 => ?_⟩
        by_cases e : j = i
        · subst e; omega
        · exact h j h1 (by omega) h3
  · rw [if_neg (fun q => he q.1)]
    rcases h with ⟨hb, h⟩ | ⟨hb, hb2, h⟩
    · refine Or.inl ⟨hb, fun j h1 h2 => ?_⟩
      by_cases e : j = i
      · subst e; exact he
      · exact h j h1 (by omega)
    · refine Or.inr ⟨by omega, hb2, fun j h1 h2 h3 => ?_⟩
      by_cases e : j = i
      · subst e; exact absurd h3 he
      · exact h j h1 (by omega) h3
theorem lvI_r (D : GDt) (i : Int) (h : 0 ≤ i) : -1 ≤ lvI D i ∧ lvI D i < i ∨ lvI D i = -1 := by
  rcases lvI_m (D := D) i h with h1 | h1 <;> omega
/-- it is the class's -/
theorem lvI_k {D : GDt} (h : GOK D) : (lvI D (nS D) = -1 ∧ lvK D = 9223372036854775807) ∨ ((0 ≤ lvI D (nS D) ∧ lvI D (nS D) < nS D) ∧ ¬ lvK D = 9223372036854775807 ∧ lvL D = (sq D (lvI D (nS D))).1 ∧ lvU D = squ D (lvI D (nS D))) := by
  have hi := lvK_is h
  rcases lvI_m (D := D) (nS D) (nS_0 D) with ⟨h1, h2⟩ | ⟨h1, h2, h3⟩
  · refine Or.inl ⟨h1, ?_⟩
    rcases hi.2.2 with e | ⟨l, a, b, e⟩
    · exact e
    · exfalso
      have hm : ((l, l) : SLt) ∈ setsD D := (setsD_mem (by have := h.n; omega) _).mpr (by show inS (l - l) l ∧ alw D (l - l) l; rw [Int.sub_self]; exact ⟨a, b⟩)
      obtain ⟨j, hj, ej⟩ := sq_all hm
      exact h2 j hj.1 hj.2 (by rw [ej])
  · have h4 := sq_in h h1
    generalize hq : sq D (lvI D (nS D)) = q at h2 h3 h4
    have hk : lvK D = keyq D q := by
      have hle : lvK D ≤ keyq D q := by
        refine hi.2.1 _ ⟨q.1, ?_, ?_, ?_⟩
        · have := h4.1; rwa [show q.2 - q.1 = 0 by omega] at this
        · have := h4.2; rwa [show q.2 - q.1 = 0 by omega] at this
        · unfold keyq; rw [show q.2 - q.1 = 0 by omega]
      have hkr := key_r h h4.2 h4.1
      rcases hi.2.2 with e | ⟨l, a, b, e⟩
      · unfold keyq at hle; omega
      · have hm : ((l, l) : SLt) ∈ setsD D := (setsD_mem (by have := h.n; omega) _).mpr (by show inS (l - l) l ∧ alw D (l - l) l; rw [Int.sub_self]; exact ⟨a, b⟩)
        obtain ⟨j, hj, ej⟩ := sq_all hm
        have h5 := h3 j hj.1 hj.2 (by rw [ej])
        rw [ej] at h5
        have e2 : keyq D (l, l) = key D 0 l := by unfold keyq; rw [show (l, l).2 - (l, l).1 = (0 : Int) from Int.sub_self l]
        omega
    refine Or.inr ⟨h1, ?_, ?_, ?_⟩
    · have hkr := key_r h h4.2 h4.1
      rw [hk]; unfold keyq; omega
    · unfold lvL; rw [hk]; exact key_l h h4.2 h4.1
    · unfold lvU squ; rw [hk, hq]; exact key_ug h h4.2 h4.1
/-- the best setting's heights, as the reference's rows have them -/
theorem bst_lr {D : GDt} (h : GOK D) (hn : ¬ bstI D (nS D) = -1) : (0 ≤ bstI D (nS D) ∧ bstI D (nS D) < nS D) ∧ ¬ mnK D = 9223372036854775807 ∧ (sq D (bstI D (nS D))).1 = bL D ∧ (sq D (bstI D (nS D))).2 = bR D ∧ squ D (bstI D (nS D)) = bU D := by
  rcases bst_key h with ⟨e, -⟩ | ⟨hb, e⟩
  · exact absurd e hn
  · have h4 := sq_in h hb
    have hkr := key_r h h4.2 h4.1
    have hm : ¬ mnK D = 9223372036854775807 := by rw [e]; unfold keyq; omega
    refine ⟨hb, hm, ?_, ?_, ?_⟩
    · unfold bL; rw [e]; exact (key_l h h4.2 h4.1).symm
    · have := key_rr h h4.2 h4.1
      unfold bR; rw [e]; unfold keyq; omega
    · unfold bU squ; rw [e]; exact (key_ug h h4.2 h4.1).symm
theorem bst_no {D : GDt} (h : GOK D) (hn : bstI D (nS D) = -1) : mnK D = 9223372036854775807 := by
  rcases bst_key h with ⟨-, e⟩ | ⟨hb, -⟩
  · exact e
  · omega
