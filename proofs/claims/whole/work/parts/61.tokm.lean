/-! ===== The reference's words, numbers, signs ===== -/
def RTc (b : Int → Int) (n : Int) (μ : Mu) : Prop := μ 45 36 = n ∧ BB b n ∧ ∀ j, 0 ≤ j → j < n → μ 62 j % 256 = b j
theorem RTc.l {b : Int → Int} {n : Int} {μ : Mu} (h : RTc b n μ) : μ 45 36 = n := h.1
theorem RTc.bb {b : Int → Int} {n : Int} {μ : Mu} (h : RTc b n μ) : BB b n := h.2.1
theorem RTc.n {b : Int → Int} {n : Int} {μ : Mu} (h : RTc b n μ) : 0 ≤ n ∧ n ≤ 900 := h.2.1.1
theorem RTc.b {b : Int → Int} {n j : Int} {μ : Mu} (h : RTc b n μ) (hj : 0 ≤ j ∧ j < n) : μ 62 j % 256 = b j := h.2.2 j hj.1 hj.2
theorem RTc.cg2 {b : Int → Int} {n : Int} {μ μ1 : Mu} (h : RTc b n μ) (e : ∀ o : Int, 62 ≤ o ∧ o ≤ 62 → μ1 o = μ o) (f : ∀ k : Int, k = 36 → μ1 45 k = μ 45 k) : RTc b n μ1 := by
  unfold RTc at h ⊢
  rw [f 36 (by omega), e 62 (by omega)]
  exact h
theorem am_ior5 {v c : Int} (hv : 0 ≤ v ∧ v < 33554432) (hc : 0 ≤ c ∧ c < 32) : am_ior (v * 32) c = v * 32 + c := by
  obtain ⟨x, rfl⟩ : ∃ x : Nat, v = x := ⟨v.toNat, by omega⟩
  obtain ⟨y, rfl⟩ : ∃ y : Nat, c = y := ⟨c.toNat, by omega⟩
  have h : Int32.ofInt ((x : Int) * 32) ||| Int32.ofInt (y : Int) = Int32.ofInt ((x : Int) * 32 + y) := by
    apply Int32.toBitVec_inj.mp
    rw [Int32.toBitVec_or]
    apply BitVec.eq_of_toNat_eq
    rw [BitVec.toNat_or]
    show (BitVec.ofInt 32 ((x : Int) * 32)).toNat ||| (BitVec.ofInt 32 (y : Int)).toNat = (BitVec.ofInt 32 ((x : Int) * 32 + y)).toNat
    rw [BitVec.toNat_ofInt, BitVec.toNat_ofInt, BitVec.toNat_ofInt]
    have e1 : ((x : Int) * 32 % ((2 ^ 32 : Nat) : Int)).toNat = 2 ^ 5 * x := by omega
    have e2 : ((y : Int) % ((2 ^ 32 : Nat) : Int)).toNat = y := by omega
    have e3 : (((x : Int) * 32 + y) % ((2 ^ 32 : Nat) : Int)).toNat = 2 ^ 5 * x + y := by omega
    rw [e1, e2, e3]
    exact (Nat.two_pow_add_eq_or_of_lt (by omega) x).symm
  unfold am_ior
  rw [h]
  exact R32.eq ⟨by omega, by omega⟩
def hvl (b : Int → Int) (s k : Int) : Int := itr (fun j v => if j < 6 then v * 32 + (b (s + j) - 96) else 0) 0 k
theorem hvl_s {b : Int → Int} {s k : Int} (h : 0 ≤ k) : hvl b s (k + 1) = if k < 6 then hvl b s k * 32 + (b (s + k) - 96) else 0 := itr_succ h
theorem hvl_r {b : Int → Int} {s m : Int} (h : ∀ j, 0 ≤ j → j < m → 97 ≤ b (s + j) ∧ b (s + j) ≤ 122) : ∀ k, 0 ≤ k → k ≤ m → 0 ≤ hvl b s k ∧ hvl b s k < 1073741824 ∧ (k ≤ 0 → hvl b s k < 1) ∧ (k ≤ 1 → hvl b s k < 32) ∧ (k ≤ 2 → hvl b s k < 1024) ∧ (k ≤ 3 → hvl b s k < 32768) ∧ (k ≤ 4 → hvl b s k < 1048576) ∧ (k ≤ 5 → hvl b s k < 33554432) := by
  intro k h0
  have : ∀ (q : Nat), (q : Int) ≤ m → 0 ≤ hvl b s q ∧ hvl b s q < 1073741824 ∧ ((q : Int) ≤ 0 → hvl b s q < 1) ∧ ((q : Int) ≤ 1 → hvl b s q < 32) ∧ ((q : Int) ≤ 2 → hvl b s q < 1024) ∧ ((q : Int) ≤ 3 → hvl b s q < 32768) ∧ ((q : Int) ≤ 4 → hvl b s q < 1048576) ∧ ((q : Int) ≤ 5 → hvl b s q < 33554432) := by
    intro q
    induction q with
    | zero =>
      intro _
      have e : hvl b s ((0 : Nat) : Int) = 0 := rfl
      rw [e]; omega
    | succ q ih =>
      intro hq
      have h1 := ih (by omega)
      have h2 := h q (by omega) (by omega)
      rw [show ((q + 1 : Nat) : Int) = (q : Int) + 1 by omega, hvl_s (by omega)]
      by_cases h6 : (q : Int) < 6
      · rw [if_pos h6]; omega
      · rw [if_neg h6]; omega
  intro hk
  have h9 := this k.toNat (by omega)
  rw [show ((k.toNat : Nat) : Int) = k by omega] at h9
  exact h9
theorem see_bl {b : Int → Int} {n t : Int} (h : see b n t = 32 ∨ see b n t = 10) : t < n ∧ (b t = 10 ∨ b t = 32) := by
  unfold see at h
  by_cases e : t < n
  · rw [if_pos e] at h; omega
  · rw [if_neg e] at h; omega
theorem see_in {b : Int → Int} {n t : Int} (h : ¬ see b n t = -1) : t < n ∧ see b n t = b t := by
  unfold see at h ⊢
  by_cases e : t < n
  · rw [if_pos e]; exact ⟨e, rfl⟩
  · rw [if_neg e] at h; omega
theorem sk_see {b : Int → Int} {n t : Int} (h1 : ¬ see b n t = 32) (h2 : ¬ see b n t = 10) : sk b n t = t := by
  by_cases e : t < n
  · unfold see at h1 h2
    rw [if_pos e] at h1 h2
    exact sk_no (by omega)
  · exact sk_end (by omega)
theorem we_see {b : Int → Int} {n t : Int} (h : ¬ (97 ≤ see b n t ∧ see b n t ≤ 122)) : we b n t = t := by
  by_cases e : t < n
  · unfold see at h
    rw [if_pos e] at h
    exact we_no h
  · exact we_end (by omega)
theorem de_see {b : Int → Int} {n t : Int} (h : ¬ (48 ≤ see b n t ∧ see b n t ≤ 57)) : de b n t = t := by
  by_cases e : t < n
  · unfold see at h
    rw [if_pos e] at h
    exact de_no h
  · exact de_end (by omega)
/-- what the reference holds of the token at s -/
def TK (b : Int → Int) (n s : Int) (μ : Mu) : Prop := μ 45 38 = s ∧
  ((see b n s = -1 ∧ μ 45 39 = 0 ∧ μ 45 40 = 0 ∧ μ 45 37 = s) ∨
  ((97 ≤ see b n s ∧ see b n s ≤ 122) ∧ μ 45 39 = 1 ∧ μ 45 40 = hvl b s (we b n s - s) ∧ μ 45 37 = we b n s) ∨
  ((48 ≤ see b n s ∧ see b n s ≤ 57) ∧ μ 45 39 = 2 ∧ μ 45 40 = nvR b s (de b n s - s) ∧ μ 45 37 = de b n s) ∨
  ((¬ see b n s = -1 ∧ ¬ (97 ≤ see b n s ∧ see b n s ≤ 122) ∧ ¬ (48 ≤ see b n s ∧ see b n s ≤ 57)) ∧ ((see b n s = 59 ∨ see b n s = 45) ∧ μ 45 39 = 3 ∨ ¬ (see b n s = 59 ∨ see b n s = 45) ∧ μ 45 39 = 4) ∧ μ 45 40 = see b n s ∧ μ 45 37 = s + 1))
