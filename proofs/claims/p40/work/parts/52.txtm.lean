/-! ===== A TEXT, read by places: blanks, numbers, words; the state that lines make ===== -/
def see (b : Int → Int) (n a : Int) : Int := if a < n then b a else -1
def blB (b : Int → Int) (j : Int) : Bool := decide (b j = 10 ∨ b j = 32)
def dgB (b : Int → Int) (j : Int) : Bool := decide (48 ≤ b j ∧ b j ≤ 57)
def ltB (b : Int → Int) (j : Int) : Bool := decide (97 ≤ b j ∧ b j ≤ 122)
def sk (b : Int → Int) (n a : Int) : Int := rn n (blB b) a
def de (b : Int → Int) (n a : Int) : Int := rn n (dgB b) a
def we (b : Int → Int) (n a : Int) : Int := rn n (ltB b) a
theorem rn_stop {sz : Int} {c : Int → Bool} : ∀ (n : Nat) (j : Int), (sz - j).toNat = n → rn sz c j < sz → ¬ c (rn sz c j) = true := by
  intro n
  induction n with
  | zero =>
    intro j h h2
    rw [rn_end (by omega)] at h2
    omega
  | succ n ih =>
    intro j h h2
    by_cases hc : c j = true
    · rw [rn_go (by omega) hc] at h2 ⊢
      exact ih (j + 1) (by omega) h2
    · rw [rn_no hc]; exact hc
theorem rn_all {sz : Int} {c : Int → Bool} : ∀ (n : Nat) (j : Int), (sz - j).toNat = n → ∀ i, j ≤ i → i < rn sz c j → i < sz → c i = true := by
  intro n
  induction n with
  | zero =>
    intro j h i h1 h2 h3
    omega
  | succ n ih =>
    intro j h i h1 h2 h3
    by_cases hc : c j = true
    · by_cases e : i = j
      · rw [e]; exact hc
      · rw [rn_go (by omega) hc] at h2
        exact ih (j + 1) (by omega) i (by omega) h2 h3
    · rw [rn_no hc] at h2
      omega
section txt
variable {b : Int → Int} {n a s k : Int}
theorem sk_r (b : Int → Int) (n a : Int) (h : a ≤ n) : a ≤ sk b n a ∧ sk b n a ≤ n := ⟨(rn_r _ a rfl).1, (rn_r _ a rfl).2 h⟩
theorem de_r (b : Int → Int) (n a : Int) (h : a ≤ n) : a ≤ de b n a ∧ de b n a ≤ n := ⟨(rn_r _ a rfl).1, (rn_r _ a rfl).2 h⟩
theorem we_r (b : Int → Int) (n a : Int) (h : a ≤ n) : a ≤ we b n a ∧ we b n a ≤ n := ⟨(rn_r _ a rfl).1, (rn_r _ a rfl).2 h⟩
theorem sk_sk (b : Int → Int) (n a : Int) : sk b n (sk b n a) = sk b n a := by
  by_cases h : sk b n a < n
  · have h1 : ¬ blB b (sk b n a) = true := rn_stop _ a rfl h
    exact rn_no h1
  · exact rn_end (by omega)
theorem sk_go (h : a < n) (hb : b a = 10 ∨ b a = 32) : sk b n a = sk b n (a + 1) := rn_go h (by unfold blB; simp [hb])
theorem sk_no (hb : ¬ (b a = 10 ∨ b a = 32)) : sk b n a = a := rn_no (by unfold blB; simpa using hb)
theorem sk_end (h : n ≤ a) : sk b n a = a := rn_end h
theorem de_go (h : a < n) (hb : 48 ≤ b a ∧ b a ≤ 57) : de b n a = de b n (a + 1) := rn_go h (by unfold dgB; simp [hb])
theorem de_no (hb : ¬ (48 ≤ b a ∧ b a ≤ 57)) : de b n a = a := rn_no (by unfold dgB; simpa using hb)
theorem de_end (h : n ≤ a) : de b n a = a := rn_end h
theorem we_go (h : a < n) (hb : 97 ≤ b a ∧ b a ≤ 122) : we b n a = we b n (a + 1) := rn_go h (by unfold ltB; simp [hb])
theorem we_no (hb : ¬ (97 ≤ b a ∧ b a ≤ 122)) : we b n a = a := rn_no (by unfold ltB; simpa using hb)
theorem we_end (h : n ≤ a) : we b n a = a := rn_end h
theorem we_all (h : a ≤ n) {i : Int} (h1 : a ≤ i) (h2 : i < we b n a) : 97 ≤ b i ∧ b i ≤ 122 := by
  have h3 := (we_r b n a h).2
  have := rn_all (c := ltB b) _ a rfl i h1 h2 (by omega)
  unfold ltB at this
  simpa using this
theorem de_all (h : a ≤ n) {i : Int} (h1 : a ≤ i) (h2 : i < de b n a) : 48 ≤ b i ∧ b i ≤ 57 := by
  have h3 := (de_r b n a h).2
  have := rn_all (c := dgB b) _ a rfl i h1 h2 (by omega)
  unfold dgB at this
  simpa using this
end txt
abbrev dgA (b : Int → Int) (n a : Int) : Prop := 48 ≤ see b n (sk b n a) ∧ see b n (sk b n a) ≤ 57
/-- the number of the first k digits from s on, as the class and as the reference hold it -/
def nvl (b : Int → Int) (s k : Int) : Int := itr (fun j v => min 100000 (v * 10 + b (s + j) - 48)) 0 k
def nvR (b : Int → Int) (s k : Int) : Int := itr (fun j v => if 1000 < v then v else 10 * v + b (s + j) - 48) 0 k
theorem nvl_s {b : Int → Int} {s k : Int} (h : 0 ≤ k) : nvl b s (k + 1) = min 100000 (nvl b s k * 10 + b (s + k) - 48) := itr_succ h
theorem nvR_s {b : Int → Int} {s k : Int} (h : 0 ≤ k) : nvR b s (k + 1) = if 1000 < nvR b s k then nvR b s k else 10 * nvR b s k + b (s + k) - 48 := itr_succ h
theorem nv_two {b : Int → Int} {s m : Int} (h : ∀ j, 0 ≤ j → j < m → 48 ≤ b (s + j) ∧ b (s + j) ≤ 57) : ∀ k, 0 ≤ k → k ≤ m → (0 ≤ nvl b s k ∧ nvl b s k ≤ 100000) ∧ (0 ≤ nvR b s k ∧ nvR b s k ≤ 10009) ∧ ((nvR b s k = nvl b s k ∧ nvl b s k ≤ 1000) ∨ (1000 < nvR b s k ∧ 1000 < nvl b s k)) := by
  intro k h0
  have : ∀ (q : Nat), (q : Int) ≤ m → (0 ≤ nvl b s q ∧ nvl b s q ≤ 100000) ∧ (0 ≤ nvR b s q ∧ nvR b s q ≤ 10009) ∧ ((nvR b s q = nvl b s q ∧ nvl b s q ≤ 1000) ∨ (1000 < nvR b s q ∧ 1000 < nvl b s q)) := by
    intro q
    induction q with
    | zero => intro _; show ((0 : Int) ≤ 0 ∧ (0 : Int) ≤ 100000) ∧ ((0 : Int) ≤ 0 ∧ (0 : Int) ≤ 10009) ∧ (((0 : Int) = 0 ∧ (0 : Int) ≤ 1000) ∨ ((1000 : Int) < 0 ∧ (1000 : Int) < 0)); omega
    | succ q ih =>
      intro hq
      have h1 := ih (by omega)
      have h2 := h q (by omega) (by omega)
      rw [show ((q + 1 : Nat) : Int) = (q : Int) + 1 by omega, nvl_s (by omega), nvR_s (by omega)]
      omega
  intro hk
  have h9 := this k.toNat (by omega)
  rw [show ((k.toNat : Nat) : Int) = k by omega] at h9
  exact h9
def nval (b : Int → Int) (n a : Int) : Int := nvl b (sk b n a) (de b n (sk b n a) - sk b n a)
theorem nval_r {b : Int → Int} {n a : Int} (h : a ≤ n) : 0 ≤ nval b n a ∧ nval b n a ≤ 100000 := by
  have h1 := sk_r b n a h
  have h2 := de_r b n (sk b n a) h1.2
  exact (nv_two (m := de b n (sk b n a) - sk b n a) (fun j q1 q2 => de_all h1.2 (by omega) (by omega)) _ (by omega) (Int.le_refl _)).1
/-- phases of a line: (0 or the FAULT, its place, what is told, the place behind) -/
abbrev Nres : Type := Int × Int × Int × Int
def nW (b : Int → Int) (n lo hi a : Int) : Nres := if ¬ dgA b n a then (1, sk b n a, 0, a) else if nval b n a < lo ∨ hi < nval b n a then (2, sk b n a, 0, a) else (0, 0, nval b n a, de b n (sk b n a))
def nK (b : Int → Int) (n a : Int) : Nres := if ¬ dgA b n a then (1, sk b n a, 0, a) else if ¬ (nval b n a = 4 ∨ nval b n a = 8 ∨ nval b n a = 16 ∨ nval b n a = 32) then (2, sk b n a, 0, a) else (0, 0, nval b n a, de b n (sk b n a))
/-- behind a sign, if there is one -/
def sg (b : Int → Int) (n a : Int) : Int := if see b n (sk b n a) = 45 then sk b n a + 1 else sk b n a
def nP (b : Int → Int) (n a : Int) : Nres := if ¬ dgA b n (sg b n a) then (1, sk b n (sg b n a), 0, a) else if 12 < nval b n (sg b n a) then (2, sk b n a, 0, a) else (0, 0, if see b n (sk b n a) = 45 then -nval b n (sg b n a) else nval b n (sg b n a), de b n (sk b n (sg b n a)))
/-- the state that lines make is a world of its own: 0 numbers (how many elements, lines, beats, unit, knee, parts, metre told, knee told), 1 kinds, 2 sounds, 3 heads, 4 times, 5 xs, 6 parts, 7 widths, 8 widths told -/
def mlS (σ : Mu) : Int := σ 0 2 * blg (σ 0 3)
def tS (σ : Mu) : Int := if σ 0 0 = 0 then 0 else σ 4 (σ 0 0 - 1) + lok (σ 1 (σ 0 0 - 1))
def xS (σ : Mu) : Int := if σ 0 0 = 0 then 0 else σ 5 (σ 0 0 - 1) + σ 7 (bok (σ 1 (σ 0 0 - 1)))
def metS (σ : Mu) (v u : Int) : Mu := am_up (am_up (am_up σ 0 2 v) 0 3 u) 0 6 1
def knS (σ : Mu) (v : Int) : Mu := am_up (am_up σ 0 4 v) 0 7 1
def wdS (σ : Mu) (k v : Int) : Mu := am_up (am_up σ 8 k 1) 7 k v
def addS (σ : Mu) (so kd hd : Int) : Mu := am_up (am_up (am_up (am_up (am_up (am_up σ 1 (σ 0 0) kd) 2 (σ 0 0) so) 3 (σ 0 0) hd) 4 (σ 0 0) (tS σ)) 5 (σ 0 0) (xS σ)) 0 0 (σ 0 0 + 1)
abbrev Lres : Type := Int × Int × Mu × Int
def erL (σ : Mu) (a c pl : Int) : Lres := (c, pl, σ, a)
def lMet (b : Int → Int) (n : Int) (σ : Mu) (a : Int) : Lres :=
  if ¬ (nW b n 1 12 a).1 = 0 then erL σ a (nW b n 1 12 a).1 (nW b n 1 12 a).2.1
  else if ¬ dgA b n (nW b n 1 12 a).2.2.2 then erL σ a 1 (sk b n (nW b n 1 12 a).2.2.2)
  else if ¬ (nval b n (nW b n 1 12 a).2.2.2 = 2 ∨ nval b n (nW b n 1 12 a).2.2.2 = 4 ∨ nval b n (nW b n 1 12 a).2.2.2 = 8) then erL σ a 2 (sk b n (nW b n 1 12 a).2.2.2)
  else (0, 0, metS σ (nW b n 1 12 a).2.2.1 (nval b n (nW b n 1 12 a).2.2.2), de b n (sk b n (nW b n 1 12 a).2.2.2))
/-- parts that are told: (0 or the FAULT, place, how many, together, the state, the place behind) -/
abbrev Sres : Type := Int × Int × Int × Int × Mu × Int
def spW (b : Int → Int) (n : Int) (σ : Mu) (k tg a : Int) : Nres := nW b n 1 (if k < 6 then σ 0 2 - tg else 0) a
def spL (b : Int → Int) (n : Int) : Nat → Mu → Int → Int → Int → Sres
  | 0, σ, k, tg, a => (0, 0, k, tg, σ, a)
  | m + 1, σ, k, tg, a => if k = 0 ∨ (k ≤ 6 ∧ dgA b n a) then (if ¬ (spW b n σ k tg a).1 = 0 then ((spW b n σ k tg a).1, (spW b n σ k tg a).2.1, k, tg, σ, a) else spL b n m (am_up σ 6 k (spW b n σ k tg a).2.2.1) (k + 1) (tg + (spW b n σ k tg a).2.2.1) (sk b n (spW b n σ k tg a).2.2.2)) else (0, 0, k, tg, σ, a)
def lSpl (b : Int → Int) (n : Int) (σ : Mu) (a : Int) : Lres :=
  if ¬ (spL b n 8 σ 0 0 a).1 = 0 then erL σ a (spL b n 8 σ 0 0 a).1 (spL b n 8 σ 0 0 a).2.1
  else if (spL b n 8 σ 0 0 a).2.2.2.1 < σ 0 2 ∧ see b n (sk b n (spL b n 8 σ 0 0 a).2.2.2.2.2) = 59 then erL σ a 5 (sk b n (spL b n 8 σ 0 0 a).2.2.2.2.2)
  else (0, 0, am_up (spL b n 8 σ 0 0 a).2.2.2.2.1 0 5 (spL b n 8 σ 0 0 a).2.2.1, (spL b n 8 σ 0 0 a).2.2.2.2.2)
def lKne (b : Int → Int) (n : Int) (σ : Mu) (a : Int) : Lres := if ¬ (nW b n 4 24 a).1 = 0 then erL σ a (nW b n 4 24 a).1 (nW b n 4 24 a).2.1 else (0, 0, knS σ (nW b n 4 24 a).2.2.1, (nW b n 4 24 a).2.2.2)
def lWid (b : Int → Int) (n : Int) (σ : Mu) (a : Int) : Lres :=
  if ¬ (nK b n a).1 = 0 then erL σ a (nK b n a).1 (nK b n a).2.1
  else if ¬ σ 8 (bok (nK b n a).2.2.1) = 0 then erL σ a 3 (sk b n a)
  else if ¬ (nW b n 4 40 (nK b n a).2.2.2).1 = 0 then erL σ a (nW b n 4 40 (nK b n a).2.2.2).1 (nW b n 4 40 (nK b n a).2.2.2).2.1
  else (0, 0, wdS σ (bok (nK b n a).2.2.1) (nW b n 4 40 (nK b n a).2.2.2).2.2.1, (nW b n 4 40 (nK b n a).2.2.2).2.2.2)
def lEle (b : Int → Int) (n : Int) (σ : Mu) (so a : Int) : Lres :=
  if ¬ (nK b n a).1 = 0 then erL σ a (nK b n a).1 (nK b n a).2.1
  else if ¬ (tS σ % mlS σ + lok (nK b n a).2.2.1 ≤ mlS σ) then erL σ a 5 (sk b n a)
  else if so = 0 then (0, 0, addS σ 0 (nK b n a).2.2.1 0, (nK b n a).2.2.2)
  else if ¬ (nP b n (nK b n a).2.2.2).1 = 0 then erL σ a (nP b n (nK b n a).2.2.2).1 (nP b n (nK b n a).2.2.2).2.1
  else (0, 0, addS σ 1 (nK b n a).2.2.1 (nP b n (nK b n a).2.2.2).2.2.1, (nP b n (nK b n a).2.2.2).2.2.2)
/-- words -/
def wln (i : Int) : Int := if i = 0 ∨ i = 1 then 5 else 4
def wcl : List (List Int) := [[109, 101, 116, 114, 101], [115, 112, 108, 105, 116], [107, 110, 101, 101], [119, 105, 100, 101], [110, 111, 116, 101], [114, 101, 115, 116]]
def wch (i j : Int) : Int := (wcl.getD i.toNat []).getD j.toNat 0
def spI (b : Int → Int) (s i k : Int) : Bool := itr (fun j c => c && decide (b (s + j) = wch i j)) true k
def spd (b : Int → Int) (s e i : Int) : Bool := decide (e - s = wln i) && spI b s i (wln i)
def wdC (b : Int → Int) (s e : Int) : Int := if spd b s e 0 = true then 0 else if spd b s e 1 = true then 1 else if spd b s e 2 = true then 2 else if spd b s e 3 = true then 3 else if spd b s e 4 = true then 4 else if spd b s e 5 = true then 5 else -1
theorem spI_s {b : Int → Int} {s i k : Int} (h : 0 ≤ k) : spI b s i (k + 1) = (spI b s i k && decide (b (s + k) = wch i k)) := itr_succ h
theorem spI_all {b : Int → Int} {s i k : Int} (h : 0 ≤ k) : spI b s i k = true ↔ ∀ j, 0 ≤ j → j < k → b (s + j) = wch i j := by
  refine itr_ind (fun k (x : Bool) => x = true ↔ ∀ j, 0 ≤ j → j < k → b (s + j) = wch i j) ?_ ?_ k h
  · exact ⟨fun _ j h1 h2 => by omega, fun _ => rfl⟩
  · intro k x h0 ih
    rw [Bool.and_eq_true, decide_eq_true_iff, ih]
    constructor
    · rintro ⟨h1, h2⟩ j h3 h4
      by_cases e : j = k
      · rw [e]; exact h2
      · exact h1 j h3 (by omega)
    · intro h1
      exact ⟨fun j h3 h4 => h1 j h3 (by omega), h1 k h0 (by omega)⟩
theorem wdC_r (b : Int → Int) (s e : Int) : -1 ≤ wdC b s e ∧ wdC b s e ≤ 5 := by unfold wdC; repeat' split <;> omega
/-- a line from its word on; what is told after it -/
abbrev tooL (σ : Mu) (w : Int) : Prop := w < 4 ∧ (0 < σ 0 0 ∨ (w = 0 ∧ 0 < σ 0 5))
def tldS (σ : Mu) (w : Int) : Int := if w = 0 then σ 0 6 else if w = 1 then (if 0 < σ 0 5 then 1 else 0) else σ 0 7
def lBod (b : Int → Int) (n : Int) (σ : Mu) (w a : Int) : Lres := if w = 0 then lMet b n σ a else if w = 1 then lSpl b n σ a else if w = 2 then lKne b n σ a else if w = 3 then lWid b n σ a else lEle b n σ (if w = 4 then 1 else 0) a
def lEnd (b : Int → Int) (n : Int) (r : Lres) : Lres := if ¬ r.1 = 0 then r else if ¬ see b n (sk b n r.2.2.2) = 59 then (1, sk b n r.2.2.2, r.2.2.1, r.2.2.2) else (0, 0, r.2.2.1, sk b n r.2.2.2 + 1)
def lnW (b : Int → Int) (n : Int) (σ : Mu) (w s e : Int) : Lres :=
  if w = -1 ∨ tooL σ w then erL σ s 1 s
  else if w ≤ 2 ∧ ¬ tldS σ w = 0 then erL σ s 3 s
  else if 4 ≤ w ∧ 64 ≤ σ 0 0 then erL σ s 4 s
  else lEnd b n (lBod b n σ w e)
def lnF (b : Int → Int) (n : Int) (σ : Mu) (a : Int) : Lres := lnW b n σ (wdC b (sk b n a) (we b n (sk b n a))) (sk b n a) (we b n (sk b n a))
/-- lines, as many as may be -/
def rdN (b : Int → Int) (n : Int) : Nat → Mu → Int → Lres
  | 0, σ, a => (0, 0, σ, a)
  | m + 1, σ, a => if n ≤ sk b n a then (0, 0, σ, a) else if ¬ (lnF b n σ a).1 = 0 then erL σ a (lnF b n σ a).1 (lnF b n σ a).2.1 else rdN b n m (am_up (lnF b n σ a).2.2.1 0 1 ((lnF b n σ a).2.2.1 0 1 + 1)) (lnF b n σ a).2.2.2
