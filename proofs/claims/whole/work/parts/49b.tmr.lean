/-! ===== Lines, widths, parts of the reference beside the class's; what element() and group() tell ===== -/
def evn (μ : Mu) (p : Int) : Int := if μ p 2 = 8 ∧ μ p 1 % 3 = 0 then 3 else 1
theorem evn_r (μ : Mu) (p : Int) : evn μ p = 1 ∨ evn μ p = 3 := by unfold evn; split <;> simp
/-- the parts that are told, or those of the metre -/
def PT (μ : Mu) (p : Int) : Prop := (μ 45 4 = 0 ∧ μ p 4 * evn μ p = μ p 1 ∧ ∀ k, 0 ≤ k → k < μ p 4 → μ (p + 1) k = evn μ p) ∨ ((1 ≤ μ 45 4 ∧ μ 45 4 ≤ 6) ∧ μ 45 4 = μ p 4 ∧ ∀ k, 0 ≤ k → k < μ p 4 → μ 46 k = μ (p + 1) k)
def RX (μ : Mu) (p : Int) : Prop := (μ 45 11 = μ p 0 ∧ ∀ k, 0 ≤ k → k < 4 → μ 47 k = μ (p + 2) k) ∧ PT μ p
theorem RX.f11 {μ : Mu} {p : Int} (h : RX μ p) : μ 45 11 = μ p 0 := h.1.1
theorem RX.wd {μ : Mu} {p k : Int} (h : RX μ p) (hk : 0 ≤ k ∧ k < 4) : μ 47 k = μ (p + 2) k := h.1.2 k hk.1 hk.2
theorem RX.pt {μ : Mu} {p : Int} (h : RX μ p) : PT μ p := h.2
theorem RX.cg2 {μ μ1 : Mu} {p : Int} (h : RX μ p) (e : ∀ o : Int, (46 ≤ o ∧ o ≤ 47) ∨ (p ≤ o ∧ o ≤ p + 10) → μ1 o = μ o) (f : ∀ k : Int, k = 4 ∨ k = 11 → μ1 45 k = μ 45 k) : RX μ1 p := by
  unfold RX PT evn at h ⊢
  rw [f 4 (by omega), f 11 (by omega), e 46 (by omega), e 47 (by omega), e p (by omega), e (p + 1) (by omega), e (p + 2) (by omega)]
  exact h
theorem pIn_1 {pt : Int → Int} {c b : Int} (hp : ∀ k, 0 ≤ k → k < c → pt k = 1) (hb : 0 ≤ b ∧ b < c) : ∀ (n : Nat) (k : Int), 0 ≤ k → k ≤ b → (c - 1 - k).toNat = n → pIn pt c b k (k + 1) = b := by
  intro n
  induction n with
  | zero => intro k h0 h1 h2; rw [pIn_no (by omega)]; omega
  | succ n ih =>
    intro k h0 h1 h2
    by_cases hc : k < c - 1 ∧ k + 1 ≤ b
    · rw [pIn_go hc.1 hc.2, hp (k + 1) (by omega) (by omega)]
      exact ih (k + 1) (by omega) (by omega) (by omega)
    · rw [pIn_no hc]; omega
theorem pIn_3 {pt : Int → Int} {c b : Int} (hp : ∀ k, 0 ≤ k → k < c → pt k = 3) (hb : 0 ≤ b ∧ b < c * 3) : ∀ (n : Nat) (k : Int), 0 ≤ k → k ≤ b / 3 → (c - 1 - k).toNat = n → pIn pt c b k (k * 3 + 3) = b / 3 := by
  intro n
  induction n with
  | zero => intro k h0 h1 h2; rw [pIn_no (by omega)]; omega
  | succ n ih =>
    intro k h0 h1 h2
    by_cases hc : k < c - 1 ∧ k * 3 + 3 ≤ b
    · rw [pIn_go hc.1 hc.2, hp (k + 1) (by omega) (by omega), show k * 3 + 3 + 3 = (k + 1) * 3 + 3 by omega]
      exact ih (k + 1) (by omega) (by omega) (by omega)
    · rw [pIn_no hc]; omega
/-- parts all alike -/
theorem pIn_ev {pt : Int → Int} {c b e : Int} (he : e = 1 ∨ e = 3) (hc : 1 ≤ c) (hp : ∀ k, 0 ≤ k → k < c → pt k = e) (hb : 0 ≤ b ∧ b < c * e) : pIn pt c b 0 (pt 0) = b / e := by
  rw [hp 0 (by omega) (by omega)]
  rcases he with rfl | rfl
  · have := pIn_1 hp (b := b) (by omega) _ 0 (by omega) (by omega) rfl
    rw [show (0 : Int) + 1 = 1 from rfl] at this
    rw [this]; omega
  · have := pIn_3 hp hb _ 0 (by omega) (by omega) rfl
    rw [show (0 : Int) * 3 + 3 = 3 from rfl] at this
    exact this
theorem dv_ge {B t x : Int} (hB : 0 < B) : B * x ≤ t ↔ x ≤ t / B := by rw [Int.le_ediv_iff_mul_le hB, Int.mul_comm]
theorem bt_lt {μ : Mu} {p t : Int} (h : PI μ p) (ht : 0 ≤ t ∧ t < mlg μ p) : 0 ≤ t / blg (μ p 2) ∧ t / blg (μ p 2) < μ p 1 := by
  have h1 := blg_r (μ p 2)
  refine ⟨Int.ediv_nonneg ht.1 (by omega), Int.ediv_lt_of_lt_mul (by omega) ?_⟩
  exact ht.2
theorem pof_b {μ : Mu} {p i each : Int} (h : PI μ p) (he : 0 ≤ each) : 0 ≤ pof μ p i each ∧ pof μ p i each < 100 := by
  have h1 := twn_r μ p i h
  have h2 := bt_lt h ⟨h1.1, h1.2.1⟩
  have h3 := h.bt
  have h4 := h.pc
  unfold pof
  split
  · have := am_div_r h2.1 (show 0 < each by omega)
    omega
  · have := pIn_r (pt := μ (p + 1)) (c := μ p 4) (b := twn μ p i / blg (μ p 2)) _ 0 (μ (p + 1) 0) rfl
    omega
/-- the part of a beat, as the reference walks -/
theorem pIn_w {pt : Int → Int} {c b k e : Int} (hk : k < c - 1) (h : e ≤ b) : pIn pt c b k e = pIn pt c b (k + 1) (e + pt (k + 1)) := pIn_go hk h
theorem tog_i {μ : Mu} {p i each : Int} (h : 0 < bmz μ p i) : tog μ p i each i = true := by unfold tog; simp [h]
theorem runl_1 {μ : Mu} {p i each : Int} (hi : i < μ p 7) (h : 0 < bmz μ p i) : 1 ≤ runl μ p i each := by
  unfold runl
  rw [rn_go hi (tog_i h)]
  have := (rn_r (sz := μ p 7) (c := tog μ p i each) _ (i + 1) rfl).1
  omega
theorem runl_0 {μ : Mu} {p i each : Int} (h : ¬ 0 < bmz μ p i) : runl μ p i each = 0 := by
  unfold runl
  rw [rn_no (by unfold tog; simp [h])]
  omega
theorem seg_one {sz i e n m : Int} {rl : Int → Int} (hi : i < sz) (hr : 0 ≤ rl i ∧ rl i ≤ sz - i) (he : e = if 1 < rl i then i + rl i else i + 1) (hn : m = n + if 1 < rl i then 1 else 0) : m + ((seg sz rl e).length : Int) = n + ((seg sz rl i).length : Int) := by
  by_cases h : 1 < rl i
  · rw [if_pos h] at he hn
    rw [seg_go hi h hr.2, he, hn, List.length_cons]
    omega
  · rw [if_neg h] at he hn
    rw [seg_no hi h, he, hn]
    omega
/-- what element() tells, and whether it throws -/
def elT (μ : Mu) (p i w : Int) : Int := if ¬ (0 ≤ i ∧ i < μ p 7) then 1 else if ¬ (0 ≤ w ∧ w ≤ 7) then 2 else 0
def elV (μ : Mu) (p i w : Int) : Int := if w = 0 then μ (p + 3) i else if w = 1 then μ (p + 4) i else if w = 2 then twn μ p i else if w = 3 then mof μ p i else if w = 4 then pof μ p i 0 else if w = 5 then μ (p + 7) i else if w = 6 then (if 0 ≤ μ (p + 8) i then μ (p + 8) i else -2) else bmz μ p i
def mbD (D : GDt) (i : Int) : Int := itr (fun j a => max a (dB D j)) 0 i
def upD (D : GDt) (i : Int) : Int := itr (fun j a => a + if 0 < way D j then 1 else 0) 0 i
theorem mbD_s {D : GDt} {i : Int} (h : 0 ≤ i) : mbD D (i + 1) = max (mbD D i) (dB D i) := itr_succ h
theorem upD_s {D : GDt} {i : Int} (h : 0 ≤ i) : upD D (i + 1) = upD D i + if 0 < way D i then 1 else 0 := itr_succ h
theorem upD_r (D : GDt) {i : Int} (h : 0 ≤ i) : 0 ≤ upD D i ∧ upD D i ≤ i := itr_ind (fun i x => 0 ≤ x ∧ x ≤ i) (by simp) (fun i x h1 h2 => by split <;> omega) i h
def grT (μ : Mu) (p g w : Int) : Int := if ¬ (0 ≤ g ∧ g < μ p 14) then 1 else if ¬ (0 ≤ w ∧ w ≤ 6) then 2 else 0
def grV (D : GDt) (f w : Int) : Int := if w = 0 then f else if w = 1 then dN D else if w = 2 then am_b (¬ klow D = 99) else if w = 3 then spn D else if w = 4 then mbD D (dN D) else if w = 5 then cnD D else upD D (dN D)
theorem knd_sh (k : Int) (h : k = 4 ∨ k = 8 ∨ k = 16 ∨ k = 32) : am_ishl 4 (bok k) = k := by
  rcases h with rfl | rfl | rfl | rfl <;> decide
/-- how many parts are told -/
theorem PT.many {μ : Mu} {p : Int} (h : PT μ p) : μ p 4 = if 0 < μ 45 4 then μ 45 4 else if μ p 2 = 8 ∧ μ p 1 % 3 = 0 then μ p 1 / 3 else μ p 1 := by
  rcases h with ⟨h1, h2, -⟩ | ⟨h1, h2, -⟩
  · rw [if_neg (by omega)]
    unfold evn at h2
    by_cases q : μ p 2 = 8 ∧ μ p 1 % 3 = 0
    · rw [if_pos q] at h2 ⊢; omega
    · rw [if_neg q] at h2 ⊢; omega
  · rw [if_pos (by omega), h2]
theorem mof_cg {μ μ1 : Mu} {p i : Int} (e : ∀ o : Int, p ≤ o ∧ o ≤ p + 10 → μ1 o = μ o) : mof μ1 p i = mof μ p i := by
  unfold mof mlg
  rw [e p (by omega), e (p + 6) (by omega)]
theorem pof_cg {μ μ1 : Mu} {p i each : Int} (e : ∀ o : Int, p ≤ o ∧ o ≤ p + 10 → μ1 o = μ o) : pof μ1 p i each = pof μ p i each := by
  unfold pof
  rw [twn_cg e, e p (by omega), e (p + 1) (by omega)]
theorem runl_cg {μ μ1 : Mu} {p i each : Int} (e : ∀ o : Int, p ≤ o ∧ o ≤ p + 10 → μ1 o = μ o) : runl μ1 p i each = runl μ p i each := by
  unfold runl
  rw [e p (by omega)]
  have h1 : tog μ1 p i each = tog μ p i each := by
    funext j
    unfold tog
    rw [bmz_cg e, mof_cg e, mof_cg e, pof_cg e, pof_cg e]
  rw [h1]
theorem pof_f (μ : Mu) (p i each : Int) (h : PI μ p) (he : 0 ≤ each) : 0 ≤ pof μ p i each ∧ pof μ p i each < 100 := pof_b h he
