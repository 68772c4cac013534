/-! ===== Words of the matter: kinds, metres; what a piece holds ===== -/
def bok (k : Int) : Int := if k = 8 then 1 else if k = 16 then 2 else if k = 32 then 3 else 0
def lok (k : Int) : Int := if k = 8 then 4 else if k = 16 then 2 else if k = 32 then 1 else 8
def blg (u : Int) : Int := if u = 2 then 16 else if u = 8 then 4 else 8
theorem bok_r (k : Int) : 0 ≤ bok k ∧ bok k ≤ 3 := by unfold bok; split <;> (try split) <;> (try split) <;> omega
theorem lok_r (k : Int) : 1 ≤ lok k ∧ lok k ≤ 8 := by unfold lok; split <;> (try split) <;> (try split) <;> omega
theorem blg_r (u : Int) : 4 ≤ blg u ∧ blg u ≤ 16 := by unfold blg; split <;> (try split) <;> omega
theorem lok_sh (k : Int) : am_ishr 8 (bok k) = lok k := by
  unfold bok lok
  split
  · decide
  · split
    · decide
    · split <;> decide
/-- what a piece holds, in bounds -/
def PI (μ : Mu) (p : Int) : Prop := (p = 20 ∨ p = 31) ∧ (1 ≤ μ p 1 ∧ μ p 1 ≤ 12) ∧ (μ p 2 = 2 ∨ μ p 2 = 4 ∨ μ p 2 = 8) ∧ (0 ≤ μ p 7 ∧ μ p 7 ≤ 64) ∧
  (∀ i, 0 ≤ i → i < μ p 7 → (μ (p + 3) i = 4 ∨ μ (p + 3) i = 8 ∨ μ (p + 3) i = 16 ∨ μ (p + 3) i = 32) ∧ (μ (p + 4) i = 0 ∨ μ (p + 4) i = 1) ∧ (-12 ≤ μ (p + 5) i ∧ μ (p + 5) i ≤ 12) ∧ (0 ≤ μ (p + 6) i ∧ μ (p + 6) i ≤ 8 * i) ∧ (0 ≤ μ (p + 7) i ∧ μ (p + 7) i ≤ 40 * i)) ∧
  (∀ k, 0 ≤ k → k < 4 → 4 ≤ μ (p + 2) k ∧ μ (p + 2) k ≤ 40) ∧ (1 ≤ μ p 4 ∧ μ p 4 ≤ 12) ∧ (∀ k, 0 ≤ k → k < μ p 4 → 1 ≤ μ (p + 1) k ∧ μ (p + 1) k ≤ 12)
section PIs
variable {μ : Mu} {p q i : Int}
theorem PI.at (h : PI μ p) : p = 20 ∨ p = 31 := h.1
theorem PI.bt (h : PI μ p) : 1 ≤ μ p 1 ∧ μ p 1 ≤ 12 := h.2.1
theorem PI.un (h : PI μ p) : 2 ≤ μ p 2 ∧ μ p 2 ≤ 8 := by rcases h.2.2.1 with e | e | e <;> omega
theorem PI.sz (h : PI μ p) : 0 ≤ μ p 7 ∧ μ p 7 ≤ 64 := h.2.2.2.1
theorem PI.kd (h : PI μ p) (hq : p + 3 = q) (hi : 0 ≤ i ∧ i < μ p 7) : μ q i = 4 ∨ μ q i = 8 ∨ μ q i = 16 ∨ μ q i = 32 := by subst hq; exact (h.2.2.2.2.1 i hi.1 hi.2).1
theorem PI.kr (h : PI μ p) (hq : p + 3 = q) (hi : 0 ≤ i ∧ i < μ p 7) : 4 ≤ μ q i ∧ μ q i ≤ 32 := by rcases h.kd hq hi with e | e | e | e <;> omega
theorem PI.so (h : PI μ p) (hq : p + 4 = q) (hi : 0 ≤ i ∧ i < μ p 7) : 0 ≤ μ q i ∧ μ q i ≤ 1 := by subst hq; rcases (h.2.2.2.2.1 i hi.1 hi.2).2.1 with e | e <;> omega
theorem PI.hd (h : PI μ p) (hq : p + 5 = q) (hi : 0 ≤ i ∧ i < μ p 7) : -12 ≤ μ q i ∧ μ q i ≤ 12 := by subst hq; exact (h.2.2.2.2.1 i hi.1 hi.2).2.2.1
theorem PI.tm (h : PI μ p) (hq : p + 6 = q) (hi : 0 ≤ i ∧ i < μ p 7) : 0 ≤ μ q i ∧ μ q i ≤ 8 * i := by subst hq; exact (h.2.2.2.2.1 i hi.1 hi.2).2.2.2.1
theorem PI.xs (h : PI μ p) (hq : p + 7 = q) (hi : 0 ≤ i ∧ i < μ p 7) : 0 ≤ μ q i ∧ μ q i ≤ 40 * i := by subst hq; exact (h.2.2.2.2.1 i hi.1 hi.2).2.2.2.2
theorem PI.wd (h : PI μ p) (hq : p + 2 = q) (hi : 0 ≤ i ∧ i < 4) : 4 ≤ μ q i ∧ μ q i ≤ 40 := by subst hq; exact h.2.2.2.2.2.1 i hi.1 hi.2
theorem PI.pc (h : PI μ p) : 1 ≤ μ p 4 ∧ μ p 4 ≤ 12 := h.2.2.2.2.2.2.1
theorem PI.pt (h : PI μ p) (hq : p + 1 = q) (hi : 0 ≤ i ∧ i < μ p 4) : 1 ≤ μ q i ∧ μ q i ≤ 12 := by subst hq; exact h.2.2.2.2.2.2.2 i hi.1 hi.2
end PIs
theorem pSh0 {X : AX} {p : Int} {x : Nat × Nat} (h1 : am_SH[20]? = some x) (h2 : am_SH[31]? = some x) (hp : p = 20 ∨ p = 31) : (gS (GG X))[p.toNat]? = some x := by
  rcases hp with rfl | rfl
  · exact h1
  · exact h2
theorem pSh {X : AX} {p : Int} {x : Nat × Nat} (c : Nat) (h1 : am_SH[20 + c]? = some x) (h2 : am_SH[31 + c]? = some x) (hp : p = 20 ∨ p = 31) : (gS (GG X))[(p + c).toNat]? = some x := by
  rcases hp with rfl | rfl
  · rw [show ((20 : Int) + c).toNat = 20 + c by omega]; exact h1
  · rw [show ((31 : Int) + c).toNat = 31 + c by omega]; exact h2
theorem pRf {X : AX} {p : Int} (k c : Nat) (h1 : am_RF 20 k = 20 + c) (h2 : am_RF 31 k = 31 + c) (hp : p = 20 ∨ p = 31) : gR (GG X) p.toNat k = p + c := by
  rcases hp with rfl | rfl
  · exact h1
  · exact h2
theorem PI.cg {μ1 μ : Mu} {p : Int} (h : PI μ p) (e : ∀ o, p ≤ o ∧ o ≤ p + 10 → μ1 o = μ o) : PI μ1 p := by
  have e0 := e p (by omega)
  have e1 := e (p + 1) (by omega)
  have e2 := e (p + 2) (by omega)
  have e3 := e (p + 3) (by omega)
  have e4 := e (p + 4) (by omega)
  have e5 := e (p + 5) (by omega)
  have e6 := e (p + 6) (by omega)
  have e7 := e (p + 7) (by omega)
  unfold PI at h ⊢
  rw [e0, e1, e2, e3, e4, e5, e6, e7]
  exact h
/-- BEAMS of an element -/
def bmz (μ : Mu) (p i : Int) : Int := if μ (p + 4) i = 0 then 0 else bok (μ (p + 3) i)
theorem bmz_r (μ : Mu) (p i : Int) : 0 ≤ bmz μ p i ∧ bmz μ p i ≤ 3 := by
  unfold bmz
  split
  · omega
  · exact bok_r _
/-- how long a measure is -/
def mlg (μ : Mu) (p : Int) : Int := μ p 1 * blg (μ p 2)
theorem mlg_r (μ : Mu) (p : Int) (h : PI μ p) : 4 ≤ mlg μ p ∧ mlg μ p ≤ 192 := by
  have h1 := h.bt
  have h2 := blg_r (μ p 2)
  unfold mlg
  constructor
  · have : 1 * 4 ≤ μ p 1 * blg (μ p 2) := Int.mul_le_mul h1.1 h2.1 (by decide) (by omega)
    omega
  · have : μ p 1 * blg (μ p 2) ≤ 12 * 16 := Int.mul_le_mul h1.2 h2.2 (by omega) (by decide)
    omega
/-- the first place from j on, below sz, of which c doesn't hold; sz -/
def rnN (c : Int → Bool) : Nat → Int → Int
  | 0, j => j
  | n + 1, j => if c j = true then rnN c n (j + 1) else j
def rn (sz : Int) (c : Int → Bool) (j : Int) : Int := rnN c (sz - j).toNat j
theorem rn_go {sz : Int} {c : Int → Bool} {j : Int} (h : j < sz) (hc : c j = true) : rn sz c j = rn sz c (j + 1) := by
  unfold rn
  obtain ⟨m, hm⟩ : ∃ m, (sz - j).toNat = m + 1 := ⟨(sz - j).toNat - 1, by omega⟩
  rw [hm, show (sz - (j + 1)).toNat = m by omega, rnN, if_pos hc]
theorem rn_no {sz : Int} {c : Int → Bool} {j : Int} (hc : ¬ c j = true) : rn sz c j = j := by
  unfold rn
  cases (sz - j).toNat with
  | zero => rfl
  | succ m => rw [rnN, if_neg hc]
theorem rn_end {sz : Int} {c : Int → Bool} {j : Int} (h : sz ≤ j) : rn sz c j = j := by
  unfold rn
  rw [show (sz - j).toNat = 0 by omega]
  rfl
theorem rn_r {sz : Int} {c : Int → Bool} : ∀ (n : Nat) (j : Int), (sz - j).toNat = n → j ≤ rn sz c j ∧ (j ≤ sz → rn sz c j ≤ sz) := by
  intro n
  induction n with
  | zero => intro j h; rw [rn_end (by omega)]; omega
  | succ n ih =>
    intro j h
    by_cases hc : c j = true
    · rw [rn_go (by omega) hc]
      have := ih (j + 1) (by omega)
      omega
    · rw [rn_no hc]
      omega
/-- the part in which a beat lies -/
def pInN (pt : Int → Int) (c b : Int) : Nat → Int → Int → Int
  | 0, k, _ => k
  | n + 1, k, e => if k < c - 1 ∧ e ≤ b then pInN pt c b n (k + 1) (e + pt (k + 1)) else k
def pIn (pt : Int → Int) (c b k e : Int) : Int := pInN pt c b (c - 1 - k).toNat k e
theorem pIn_go {pt : Int → Int} {c b k e : Int} (h : k < c - 1) (h2 : e ≤ b) : pIn pt c b k e = pIn pt c b (k + 1) (e + pt (k + 1)) := by
  unfold pIn
  obtain ⟨m, hm⟩ : ∃ m, (c - 1 - k).toNat = m + 1 := ⟨(c - 1 - k).toNat - 1, by omega⟩
  rw [hm, show (c - 1 - (k + 1)).toNat = m by omega, pInN, if_pos ⟨h, h2⟩]
theorem pIn_no {pt : Int → Int} {c b k e : Int} (h : ¬ (k < c - 1 ∧ e ≤ b)) : pIn pt c b k e = k := by
  unfold pIn
  cases (c - 1 - k).toNat with
  | zero => rfl
  | succ m => rw [pInN, if_neg h]
theorem pIn_r {pt : Int → Int} {c b : Int} : ∀ (n : Nat) (k e : Int), (c - 1 - k).toNat = n → k ≤ pIn pt c b k e ∧ (k ≤ c - 1 → pIn pt c b k e ≤ c - 1) := by
  intro n
  induction n with
  | zero => intro k e h; rw [pIn_no (by omega)]; omega
  | succ n ih =>
    intro k e h
    by_cases hc : k < c - 1 ∧ e ≤ b
    · rw [pIn_go hc.1 hc.2]
      have := ih (k + 1) (e + pt (k + 1)) (by omega)
      omega
    · rw [pIn_no hc]
      omega
/-- time and x of the element that comes next -/
def tnx (μ : Mu) (p : Int) : Int := if μ p 7 = 0 then 0 else μ (p + 6) (μ p 7 - 1) + lok (μ (p + 3) (μ p 7 - 1))
def xnx (μ : Mu) (p : Int) : Int := if μ p 7 = 0 then 0 else μ (p + 7) (μ p 7 - 1) + μ (p + 2) (bok (μ (p + 3) (μ p 7 - 1)))
theorem tnx_r (μ : Mu) (p : Int) (h : PI μ p) : 0 ≤ tnx μ p ∧ tnx μ p ≤ 8 * μ p 7 := by
  have hz := h.sz
  unfold tnx
  split
  · omega
  · have h1 := h.tm (i := μ p 7 - 1) rfl (by omega)
    have h2 := lok_r (μ (p + 3) (μ p 7 - 1))
    omega
theorem xnx_r (μ : Mu) (p : Int) (h : PI μ p) : 0 ≤ xnx μ p ∧ xnx μ p ≤ 40 * μ p 7 := by
  have hz := h.sz
  unfold xnx
  split
  · omega
  · have h1 := h.xs (i := μ p 7 - 1) rfl (by omega)
    have h3 := bok_r (μ (p + 3) (μ p 7 - 1))
    have h2 := h.wd (i := bok (μ (p + 3) (μ p 7 - 1))) rfl (by omega)
    omega
def twn (μ : Mu) (p i : Int) : Int := μ (p + 6) i % mlg μ p
def mof (μ : Mu) (p i : Int) : Int := μ (p + 6) i / mlg μ p
theorem twn_r (μ : Mu) (p i : Int) (h : PI μ p) : 0 ≤ twn μ p i ∧ twn μ p i < mlg μ p ∧ mlg μ p ≤ 192 := by
  have := mlg_r μ p h
  unfold twn
  exact ⟨Int.emod_nonneg _ (by omega), Int.emod_lt_of_pos _ (by omega), this.2⟩
theorem am_div_r {a b : Int} (ha : 0 ≤ a) (hb : 0 < b) : 0 ≤ a / b ∧ a / b ≤ a := ⟨Int.ediv_nonneg ha (by omega), Int.ediv_le_self b ha⟩
theorem mof_r (μ : Mu) (p i : Int) (h : PI μ p) (hi : 0 ≤ i ∧ i < μ p 7) : 0 ≤ mof μ p i ∧ mof μ p i ≤ 512 := by
  have h1 := mlg_r μ p h
  have h2 := h.tm rfl hi
  have h3 := h.sz
  have h4 := am_div_r h2.1 (show 0 < mlg μ p by omega)
  unfold mof
  omega
/-- the part of an element, parts being so long (0: as they are) -/
def pof (μ : Mu) (p i each : Int) : Int := if 0 < each then twn μ p i / blg (μ p 2) / each else pIn (μ (p + 1)) (μ p 4) (twn μ p i / blg (μ p 2)) 0 (μ (p + 1) 0)
theorem pof_r (μ : Mu) (p i each : Int) (h : PI μ p) : 0 ≤ pof μ p i each ∧ pof μ p i each ≤ 192 := by
  have h1 := twn_r μ p i h
  have h2 := blg_r (μ p 2)
  have h3 := am_div_r h1.1 (show 0 < blg (μ p 2) by omega)
  unfold pof
  split
  · have h4 := am_div_r h3.1 (show 0 < each by omega)
    omega
  · have h4 := pIn_r (pt := μ (p + 1)) (c := μ p 4) (b := twn μ p i / blg (μ p 2)) _ 0 (μ (p + 1) 0) rfl
    have h5 := h.pc
    omega
/-- whether an element stands together with i -/
def tog (μ : Mu) (p i each : Int) (j : Int) : Bool := decide (0 < bmz μ p j ∧ mof μ p j = mof μ p i ∧ pof μ p j each = pof μ p i each)
/-- how many elements stand together from i on -/
def runl (μ : Mu) (p i each : Int) : Int := rn (μ p 7) (tog μ p i each) i - i
theorem runl_r (μ : Mu) (p i each : Int) (h : PI μ p) (hi : i ≤ μ p 7) : 0 ≤ runl μ p i each ∧ runl μ p i each ≤ μ p 7 - i := by
  have := rn_r (sz := μ p 7) (c := tog μ p i each) _ i rfl
  unfold runl
  omega

/-! ===== Folds, stretches of one kind, groups of a piece ===== -/
def itrN {α : Type} (g : Int → α → α) (a : α) : Nat → α
  | 0 => a
  | m + 1 => g m (itrN g a m)
/-- g of 0, 1 .. i - 1 one after the other, from a on -/
def itr {α : Type} (g : Int → α → α) (a : α) (i : Int) : α := itrN g a i.toNat
theorem itr_0 {α : Type} {g : Int → α → α} {a : α} : itr g a 0 = a := rfl
theorem itr_succ {α : Type} {g : Int → α → α} {a : α} {i : Int} (h : 0 ≤ i) : itr g a (i + 1) = g i (itr g a i) := by
  unfold itr
  rw [show (i + 1).toNat = i.toNat + 1 by omega, itrN, show ((i.toNat : Nat) : Int) = i by omega]
theorem itr_end {α : Type} {g : Int → α → α} {a : α} {i : Int} (h : i ≤ 0) : itr g a i = a := by
  unfold itr
  rw [show i.toNat = 0 by omega]
  rfl
/-- what holds of a fold -/
theorem itr_ind {α : Type} {g : Int → α → α} {a : α} (P : Int → α → Prop) (h0 : P 0 a) (h1 : ∀ i x, 0 ≤ i → P i x → P (i + 1) (g i x)) : ∀ i, 0 ≤ i → P i (itr g a i) := by
  intro i hi
  obtain ⟨m, rfl⟩ : ∃ m : Nat, i = m := ⟨i.toNat, by omega⟩
  induction m with
  | zero => exact h0
  | succ m ih =>
    have := h1 m _ (by omega) (ih (by omega))
    rw [show ((m + 1 : Nat) : Int) = (m : Int) + 1 by omega, itr_succ (by omega)]
    exact this
theorem itr_indn {α : Type} {g : Int → α → α} {a : α} {n : Int} (P : Int → α → Prop) (h0 : P 0 a) (h1 : ∀ i x, 0 ≤ i → i < n → P i x → P (i + 1) (g i x)) : ∀ i, 0 ≤ i → i ≤ n → P i (itr g a i) := by
  intro i hi
  obtain ⟨m, rfl⟩ : ∃ m : Nat, i = m := ⟨i.toNat, by omega⟩
  induction m with
  | zero => intro _; exact h0
  | succ m ih =>
    intro hn
    have := h1 m _ (by omega) (by omega) (ih (by omega) (by omega))
    rw [show ((m + 1 : Nat) : Int) = (m : Int) + 1 by omega, itr_succ (by omega)]
    exact this
/-- two folds of one form -/
theorem itr_cg {α : Type} {g g' : Int → α → α} {a : α} {n : Int} (h : ∀ i x, 0 ≤ i → i < n → g i x = g' i x) : itr g a n = itr g' a n := by
  by_cases hn : 0 ≤ n
  · exact itr_indn (g := g) (n := n) (fun i x => x = itr g' a i) rfl (fun i x h1 h2 h3 => by rw [itr_succ h1, h i x h1 h2, h3]) n hn (Int.le_refl n)
  · rw [itr_end (by omega), itr_end (by omega)]
/-- groups: from i on, where they begin and how long they are -/
def segN (sz : Int) (rl : Int → Int) : Nat → Int → List (Int × Int)
  | 0, _ => []
  | m + 1, i => if i < sz then (if 1 < rl i then (i, rl i) :: segN sz rl m (i + rl i) else segN sz rl m (i + 1)) else []
def seg (sz : Int) (rl : Int → Int) (i : Int) : List (Int × Int) := segN sz rl (sz - i).toNat i
theorem segN_more {sz : Int} {rl : Int → Int} : ∀ (m m' : Nat) (i : Int), sz - i ≤ m → sz - i ≤ m' → segN sz rl m i = segN sz rl m' i := by
  intro m
  induction m with
  | zero =>
    intro m' i h _
    cases m' with
    | zero => rfl
    | succ m' => rw [segN, segN, if_neg (by omega)]
  | succ m ih =>
    intro m' i h h'
    cases m' with
    | zero => rw [segN, segN, if_neg (by omega)]
    | succ m' =>
      rw [segN, segN]
      split
      · split
        · rw [ih m' (i + rl i) (by omega) (by omega)]
        · rw [ih m' (i + 1) (by omega) (by omega)]
      · rfl
theorem seg_end {sz : Int} {rl : Int → Int} {i : Int} (h : sz ≤ i) : seg sz rl i = [] := by
  unfold seg
  rw [show (sz - i).toNat = 0 by omega]
  rfl
theorem seg_go {sz : Int} {rl : Int → Int} {i : Int} (h : i < sz) (h1 : 1 < rl i) (_ : rl i ≤ sz - i) : seg sz rl i = (i, rl i) :: seg sz rl (i + rl i) := by
  unfold seg
  obtain ⟨m, hm⟩ : ∃ m, (sz - i).toNat = m + 1 := ⟨(sz - i).toNat - 1, by omega⟩
  rw [hm, segN, if_pos h, if_pos h1, segN_more m (sz - (i + rl i)).toNat (i + rl i) (by omega) (by omega)]
theorem seg_no {sz : Int} {rl : Int → Int} {i : Int} (h : i < sz) (h1 : ¬ 1 < rl i) : seg sz rl i = seg sz rl (i + 1) := by
  unfold seg
  obtain ⟨m, hm⟩ : ∃ m, (sz - i).toNat = m + 1 := ⟨(sz - i).toNat - 1, by omega⟩
  rw [hm, segN, if_pos h, if_neg h1, show m = (sz - (i + 1)).toNat by omega]
/-- the groups of a piece, as they are told -/
def PG (μ : Mu) (p : Int) : Prop := (0 ≤ μ p 14 ∧ μ p 14 ≤ 32) ∧
  (∀ g, 0 ≤ g → g < μ p 14 → (0 ≤ μ (p + 9) g ∧ 2 ≤ μ (p + 10) g ∧ μ (p + 9) g + μ (p + 10) g ≤ μ p 7) ∧ ∀ i, μ (p + 9) g ≤ i → i < μ (p + 9) g + μ (p + 10) g → μ (p + 8) i = g ∧ μ (p + 4) i = 1 ∧ 1 ≤ bok (μ (p + 3) i)) ∧
  (∀ i, 0 ≤ i → i < μ p 7 → (-1 ≤ μ (p + 8) i ∧ μ (p + 8) i < μ p 14) ∧ (0 ≤ μ (p + 8) i → μ (p + 9) (μ (p + 8) i) ≤ i ∧ i < μ (p + 9) (μ (p + 8) i) + μ (p + 10) (μ (p + 8) i))) ∧
  (∀ i, 0 ≤ i → i + 1 < μ p 7 → μ (p + 7) i + 4 ≤ μ (p + 7) (i + 1) ∧ μ (p + 7) (i + 1) ≤ μ (p + 7) i + 40)
section PGs
variable {μ : Mu} {p i g : Int}
theorem PG.gr (h : PG μ p) : 0 ≤ μ p 14 ∧ μ p 14 ≤ 32 := h.1
theorem PG.fl (h : PG μ p) (hg : 0 ≤ g ∧ g < μ p 14) : 0 ≤ μ (p + 9) g ∧ 2 ≤ μ (p + 10) g ∧ μ (p + 9) g + μ (p + 10) g ≤ μ p 7 := (h.2.1 g hg.1 hg.2).1
theorem PG.of (h : PG μ p) (hg : 0 ≤ g ∧ g < μ p 14) (hi : μ (p + 9) g ≤ i ∧ i < μ (p + 9) g + μ (p + 10) g) : μ (p + 8) i = g ∧ μ (p + 4) i = 1 ∧ 1 ≤ bok (μ (p + 3) i) := (h.2.1 g hg.1 hg.2).2 i hi.1 hi.2
theorem PG.go (h : PG μ p) (hi : 0 ≤ i ∧ i < μ p 7) : -1 ≤ μ (p + 8) i ∧ μ (p + 8) i < μ p 14 := (h.2.2.1 i hi.1 hi.2).1
theorem PG.go2 (h : PG μ p) (hi : 0 ≤ i ∧ i < μ p 7) (h0 : 0 ≤ μ (p + 8) i) : μ (p + 9) (μ (p + 8) i) ≤ i ∧ i < μ (p + 9) (μ (p + 8) i) + μ (p + 10) (μ (p + 8) i) := (h.2.2.1 i hi.1 hi.2).2 h0
theorem PG.xs (h : PG μ p) (hi : 0 ≤ i ∧ i + 1 < μ p 7) : μ (p + 7) i + 4 ≤ μ (p + 7) (i + 1) ∧ μ (p + 7) (i + 1) ≤ μ (p + 7) i + 40 := h.2.2.2 i hi.1 hi.2
theorem PG.cg {μ1 : Mu} (h : PG μ p) (e : ∀ o, p ≤ o ∧ o ≤ p + 10 → μ1 o = μ o) : PG μ1 p := by
  have e0 := e p (by omega)
  have e3 := e (p + 3) (by omega)
  have e4 := e (p + 4) (by omega)
  have e7 := e (p + 7) (by omega)
  have e8 := e (p + 8) (by omega)
  have e9 := e (p + 9) (by omega)
  have e10 := e (p + 10) (by omega)
  unfold PG at h ⊢
  rw [e0, e3, e4, e7, e8, e9, e10]
  exact h
end PGs
abbrev tgt (μ : Mu) (p i k : Int) : Prop := 0 ≤ i ∧ 0 ≤ k ∧ i < μ p 7 ∧ k < μ p 7 ∧ 0 ≤ μ (p + 8) i ∧ μ (p + 8) i = μ (p + 8) k
def bml (μ : Mu) (p i : Int) : Int := if tgt μ p i (i - 1) then min (bmz μ p i) (bmz μ p (i - 1)) else 0
def bmr (μ : Mu) (p i : Int) : Int := if tgt μ p i (i + 1) then min (bmz μ p i) (bmz μ p (i + 1)) else 0
theorem bml_r (μ : Mu) (p i : Int) : 0 ≤ bml μ p i ∧ bml μ p i ≤ 3 := by
  have h1 := bmz_r μ p i
  have h2 := bmz_r μ p (i - 1)
  unfold bml
  split <;> omega
theorem bmr_r (μ : Mu) (p i : Int) : 0 ≤ bmr μ p i ∧ bmr μ p i ≤ 3 := by
  have h1 := bmz_r μ p i
  have h2 := bmz_r μ p (i + 1)
  unfold bmr
  split <;> omega
def stb (μ : Mu) (p i : Int) : Int := bmz μ p i - max (bml μ p i) (bmr μ p i)
def ste (μ : Mu) (p k i : Int) : Int := min (rn (μ p 7) (fun j => decide (k ≤ bmr μ p j)) i) (μ p 7 - 1)
theorem ste_r (μ : Mu) (p k i : Int) (h : 0 ≤ i ∧ i < μ p 7) : i ≤ ste μ p k i ∧ ste μ p k i < μ p 7 := by
  have := rn_r (sz := μ p 7) (c := fun j => decide (k ≤ bmr μ p j)) _ i rfl
  unfold ste
  omega
abbrev sgl (μ : Mu) (p i : Int) : Prop := tgt μ p i (i - 1) ∧ (¬ tgt μ p i (i + 1) ∨ (0 < bmz μ p (i - 1) - bmz μ p (i + 1)) ∨ (bmz μ p (i - 1) - bmz μ p (i + 1) = 0 ∧ twn μ p i / max 1 (lok (μ (p + 3) i)) % 2 = 1))
