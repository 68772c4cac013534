/-! ===== The law's numbers, out of the script ===== -/
def sc (G : AG) (k : Int) : Int := if k < (gK G 14 : Int) then sx G k else 0
def inn (x most : Int) : Int := am_iand x 2147483647 % most
def lkd (G : AG) (i : Int) : Int := 1 + inn (sc G (2 * i)) 3
def lpo (G : AG) (i : Int) : Int := inn (sc G (2 * i + 1)) (if inn (Int.tdiv (sc G (2 * i)) 8) 4 = 0 then 25 else 13) - 6
def lpl (G : AG) (i : Int) : Int := min 12 (lpo G i)
def lkn (G : AG) : Int := 4 + inn (sc G 21) 21
def lwd (G : AG) (k : Int) : Int := 4 + inn (am_ishr (sc G 22) (5 * k)) 31
/-- how long a note of so many beams is -/
def lng (k : Int) : Int := if k = 1 then 4 else if k = 2 then 2 else 1
/-- how long the first i notes are -/
def ltm (G : AG) (i : Int) : Int := itr (fun j a => a + lng (lkd G j)) 0 i
def lmyF (G : AG) : Nat → Int → Int
  | 0, n => n
  | f + 1, n => if n < 8 ∧ n < 2 + inn (sc G 20) 7 ∧ ltm G n + lng (lkd G n) ≤ 16 then lmyF G f (n + 1) else n
def lmy (G : AG) : Int := lmyF G 8 0
theorem iand_nn (x : Int) : 0 ≤ am_iand x 2147483647 ∧ am_iand x 2147483647 ≤ 2147483647 := by
  have e : ∀ y : Int32, (y &&& 2147483647).toInt = ((y.toBitVec.toNat % 2147483648 : Nat) : Int) := by
    intro y
    have h1 : (y &&& 2147483647).toBitVec.toNat = y.toBitVec.toNat % 2147483648 := by
      have h2 : (2147483647 : Int32).toBitVec.toNat = 2 ^ 31 - 1 := by decide
      show (y.toBitVec &&& (2147483647 : Int32).toBitVec).toNat = _
      rw [BitVec.toNat_and, h2, Nat.and_two_pow_sub_one_eq_mod]
    show (y &&& 2147483647).toBitVec.toInt = _
    rw [BitVec.toInt_eq_toNat_cond, h1, if_pos (by omega)]
  unfold am_iand
  rw [show Int32.ofInt 2147483647 = (2147483647 : Int32) by decide, e]
  omega
theorem inn_r {x m : Int} (h : 0 < m) : 0 ≤ inn x m ∧ inn x m < m := ⟨Int.emod_nonneg _ (by omega), Int.emod_lt_of_pos _ h⟩
theorem inn_rr (x m : Int) (h : 0 < m) : 0 ≤ inn x m ∧ inn x m < m := inn_r h
theorem sx_r (G : AG) (k : Int) : -2147483648 ≤ sx G k ∧ sx G k ≤ 2147483647 := am_toInt_r _
theorem sc_r (G : AG) (k : Int) : -2147483648 ≤ sc G k ∧ sc G k ≤ 2147483647 := by
  have := sx_r G k
  unfold sc
  split <;> omega
theorem lkd_r (G : AG) (i : Int) : 1 ≤ lkd G i ∧ lkd G i ≤ 3 := by
  have := inn_r (x := sc G (2 * i)) (m := 3) (by decide)
  unfold lkd
  omega
theorem lpo_r (G : AG) (i : Int) : -6 ≤ lpo G i ∧ lpo G i ≤ 18 := by
  have h1 := inn_r (x := sc G (2 * i + 1)) (m := 25) (by decide)
  have h2 := inn_r (x := sc G (2 * i + 1)) (m := 13) (by decide)
  unfold lpo
  split <;> omega
theorem lpl_r (G : AG) (i : Int) : -6 ≤ lpl G i ∧ lpl G i ≤ 12 := by
  have := lpo_r G i
  unfold lpl
  omega
theorem lkn_r (G : AG) : 4 ≤ lkn G ∧ lkn G ≤ 24 := by
  have := inn_r (x := sc G 21) (m := 21) (by decide)
  unfold lkn
  omega
theorem lwd_r (G : AG) (k : Int) : 4 ≤ lwd G k ∧ lwd G k ≤ 34 := by
  have := inn_r (x := am_ishr (sc G 22) (5 * k)) (m := 31) (by decide)
  unfold lwd
  omega
theorem lng_r (k : Int) : 1 ≤ lng k ∧ lng k ≤ 4 := by unfold lng; split <;> (try split) <;> omega
theorem ltm_0 (G : AG) : ltm G 0 = 0 := rfl
theorem ltm_s {G : AG} {i : Int} (h : 0 ≤ i) : ltm G (i + 1) = ltm G i + lng (lkd G i) := itr_succ h
theorem lmyF_r (G : AG) : ∀ (f : Nat) (n : Int), 0 ≤ n → n ≤ 8 → ltm G n ≤ 16 → (n ≤ lmyF G f n ∧ lmyF G f n ≤ 8) ∧ ltm G (lmyF G f n) ≤ 16 := by
  intro f
  induction f with
  | zero => intro n h0 h8 ht; exact ⟨⟨by unfold lmyF; omega, by unfold lmyF; omega⟩, by unfold lmyF; exact ht⟩
  | succ f ih =>
    intro n h0 h8 ht
    unfold lmyF
    split
    · rename_i hc
      have := ih (n + 1) (by omega) (by omega) (by rw [ltm_s h0]; omega)
      omega
    · omega
theorem lmyF_1 {G : AG} {n : Int} {f : Nat} (h : n < 8 ∧ n < 2 + inn (sc G 20) 7 ∧ ltm G n + lng (lkd G n) ≤ 16) : lmyF G (f + 1) n = lmyF G f (n + 1) := by
  show (if _ then _ else _) = _
  rw [if_pos h]
theorem lmyF_0 {G : AG} {n : Int} {f : Nat} (h : ¬ (n < 8 ∧ n < 2 + inn (sc G 20) 7 ∧ ltm G n + lng (lkd G n) ≤ 16)) : lmyF G f n = n := by
  cases f with
  | zero => rfl
  | succ f =>
    show (if _ then _ else _) = _
    rw [if_neg h]
theorem lmy_r (G : AG) : (2 ≤ lmy G ∧ lmy G ≤ 8) ∧ ltm G (lmy G) ≤ 16 := by
  have h7 := inn_r (x := sc G 20) (m := 7) (by decide)
  have l0 := lng_r (lkd G 0)
  have l1 := lng_r (lkd G 1)
  have e1 : ltm G 1 = ltm G 0 + lng (lkd G 0) := ltm_s (i := 0) (by decide)
  have e2 : ltm G 2 = ltm G 1 + lng (lkd G 1) := ltm_s (i := 1) (by decide)
  have e0 := ltm_0 G
  have h1 : lmy G = lmyF G 7 1 := lmyF_1 ⟨by decide, by omega, by omega⟩
  have h2 : lmyF G 7 1 = lmyF G 6 2 := lmyF_1 ⟨by decide, by omega, by omega⟩
  have := lmyF_r G 6 2 (by decide) (by decide) (by omega)
  rw [h1, h2]
  omega
theorem lng_e {k : Int} (h : 1 ≤ k ∧ k ≤ 3) : am_ishr 8 k = lng k := by
  have : k = 1 ∨ k = 2 ∨ k = 3 := by omega
  rcases this with rfl | rfl | rfl <;> decide
def sgn (z : Int) : Int := if z < 0 then -1 else if z = 0 then 0 else 1
def am_iushr (a b : Int) : Int := (((Int32.ofInt a).toUInt32 >>> ((Int32.ofInt b).toUInt32 &&& Int32.toUInt32 31)).toInt32).toInt
theorem sgn_all : ∀ k : Fin 65, am_ior (am_ishr ((k.val : Int) - 32) 31) (am_iushr (-((k.val : Int) - 32)) 31) = sgn ((k.val : Int) - 32) := by decide +kernel
theorem sgn_e {z : Int} (h : -32 ≤ z ∧ z ≤ 32) : am_ior (am_ishr z 31) (am_iushr (-z) 31) = sgn z := by
  have h1 := sgn_all ⟨(z + 32).toNat, by omega⟩
  simp only at h1
  rw [show (((z + 32).toNat : Nat) : Int) - 32 = z by omega] at h1
  exact h1
