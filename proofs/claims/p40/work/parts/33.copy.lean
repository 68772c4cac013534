/-! ===== System.arraycopy within a row of ints ===== -/
set_option maxRecDepth 20000 in
theorem kc_767 : Cond.methodLink "BeamSetter$History" 22 arraycopyName ∈ TW := tw_in 609 (by decide +kernel) rfl
set_option maxRecDepth 20000 in
theorem kc_768 : Cond.static arraycopyName ∈ TW := tw_in 610 (by decide +kernel) rfl
set_option maxRecDepth 20000 in
theorem kc_769 : Cond.native arraycopyName ∈ TW := tw_in 611 (by decide +kernel) rfl
set_option maxRecDepth 20000 in
theorem kc_148 : Cond.initialized "java/lang/System" ∈ TW := tw_in 64 (by decide +kernel) rfl
def am_cp (μ : Mu) (o sp dp k : Int) : Mu := fun a b => if a = o then (if dp ≤ b ∧ b < dp + k then μ o (b - dp + sp) else μ o b) else μ a b
theorem am_cp_o {μ : Mu} {o sp dp k a : Int} (h : a ≠ o) : am_cp μ o sp dp k a = μ a := by funext b; exact if_neg h
theorem am_cp_at {μ : Mu} {o sp dp k b : Int} : am_cp μ o sp dp k o b = if dp ≤ b ∧ b < dp + k then μ o (b - dp + sp) else μ o b := if_pos rfl
def am_Cc (M : AMeth) (pc : Nat) : Prop := ∃ idx : Nat, decode M.2.1 pc = .ok (.invokestatic idx, 3) ∧ Cond.methodLink M.1.cls idx arraycopyName ∈ TW ∧ Cond.native arraycopyName ∈ TW ∧ Cond.static arraycopyName ∈ TW ∧ Cond.initialized "java/lang/System" ∈ TW ∧ 1 ≤ M.2.2.2.2.1 ∧ 60 ≤ M.2.2.2.2.2
theorem am_clampN {z : Int} (h0 : 0 ≤ z) (h1 : z < 2147483648) : ¬ Int32.ofInt z < 0 ∧ (Int32.ofInt z).toNatClampNeg = z.toNat := by
  have hr : R32 z := ⟨by omega, by omega⟩
  refine ⟨?_, ?_⟩
  · rw [am_0, am_lt hr R32.zero]
    omega
  · show (Int32.ofInt z).toInt.toNat = _
    rw [hr.eq]
section CopyRow
variable {G : AG} {M : AMeth} {pc : Nat} {ls st : List AV} {μ : Mu} {Q : Option AV → Mu → Prop}
theorem am_row_cp {o n : Nat} {sp dp k : Int} (hs : (gS G)[o]? = some (20, n)) (h1 : 0 ≤ sp) (h2 : 0 ≤ dp) : (am_pic G μ).set o (gA G o, .inl (gC G 0, n, .inl (va_cpy (fun j => Int32.ofInt (μ o j)) (fun j => Int32.ofInt (μ o j)) sp.toNat dp.toNat k.toNat))) = am_pic G (am_cp μ o sp dp k) := by
  have e : va_cpy (fun j : Nat => Int32.ofInt (μ o j)) (fun j : Nat => Int32.ofInt (μ o j)) sp.toNat dp.toNat k.toNat = fun j : Nat => Int32.ofInt (am_cp μ o sp dp k o j) := by
    funext j
    rw [am_cp_at]
    unfold va_cpy
    by_cases hc : dp.toNat ≤ j ∧ j < dp.toNat + k.toNat
    · rw [if_pos hc, if_pos (by omega)]
      show Int32.ofInt (μ o ((sp.toNat + (j - dp.toNat) : Nat) : Int)) = _
      rw [show ((sp.toNat + (j - dp.toNat) : Nat) : Int) = (j : Int) - dp + sp by omega]
    · rw [if_neg hc, if_neg (by omega)]
  rw [e, ← am_el_row (G := G) (μ := am_cp μ o sp dp k) (t := 0) hs (by decide)]
  refine am_pic_set (fun o' h b => ?_)
  show am_cp μ o sp dp k o' b = _
  rw [am_cp_o (by omega)]
theorem w_copy {o n : Nat} {z sp dp k : Int} (hf : am_Cc M pc) (ho : z = (o : Int)) (hs : (gS G)[o]? = some (20, n)) (hn : n < 2147483648) (h1 : 0 ≤ sp ∧ 0 ≤ dp ∧ 0 ≤ k) (h4 : sp + k ≤ n ∧ dp + k ≤ n) (hcat : am_cs st ≤ 8)
    (kk : Wp G M (pc + 3) ls st (am_cp μ z sp dp k) Q) : Wp G M pc ls ((0, k) :: (0, dp) :: (2, z) :: (0, sp) :: (2, z) :: st) μ Q := by
  subst ho
  refine Wp.lift (fun r μ' h9 => ?_) kk
  obtain ⟨idx, hd, w1, w2, w3, w4, w5, w6⟩ := hf
  intro p e s m args below meth c H locs lsA hI
  obtain ⟨hX, hK, hP, hD, hS, hE, hl⟩ := id hI
  have hts := hX.2.2.2.2.1
  have c1 := am_clampN (z := sp) h1.1 (by omega)
  have c2 := am_clampN (z := dp) h1.2.1 (by omega)
  have c3 := am_clampN (z := k) h1.2.2 (by omega)
  rw [List.map_cons, List.map_cons, List.map_cons, List.map_cons, List.map_cons, am_ref_pos (by omega)]
  refine va_copyi (n := Int32.ofInt k) (dp := Int32.ofInt dp) (sp := Int32.ofInt sp) hX.1 hX.2.1 (by rw [hX.2.2.1]; exact hl.1.symm) hX.2.2.2.1 (hts _ w1) (hts _ w2) (hts _ w3) (hts _ w4) hK hP hD hS o o 0 0 (am_pic_at hs (am_el_row (t := 0) hs (by decide))) (am_pic_at hs (am_el_row (t := 0) hs (by decide))) rfl rfl rfl
    c1.1 c2.1 c3.1 (by rw [c1.2, c3.2]; omega) (by rw [c2.2, c3.2]; omega) (fun i hi => rfl) w5 (by rw [am_cs_eq]; exact Nat.le_trans (Nat.add_le_add_right hcat _) (Nat.le_trans (by decide +kernel) w6)) hd (fun H1 locs1 hP1 hD1 hS1 => ?_)
  rw [c1.2, c2.2, c3.2, am_row_cp hs h1.1 h1.2.1] at hP1 hD1
  exact h9 p e s m args below meth c H1 locs1 lsA ⟨hX, hK, hP1, hD1, hS1, hE, hl⟩
theorem Fr.cp {μ1 : Mu} {a b c d o sp dp k : Int} (h : Fr a b c d μ1 μ) (ho : (a ≤ o ∧ o ≤ b) ∨ (c ≤ o ∧ o ≤ d)) : Fr a b c d (am_cp μ1 o sp dp k) μ := fun q h1 h2 => by
  rw [am_cp_o (by omega)]
  exact h q h1 h2
end CopyRow
theorem fX1_remember_21 : am_Cc M_X1_remember 21 := ⟨22, dX1_remember_21, kc_767, kc_769, kc_768, kc_148, Nat.le_of_ble_eq_true rfl, Nat.le_of_ble_eq_true rfl⟩
theorem fX1_remember_36 : am_Cc M_X1_remember 36 := ⟨22, dX1_remember_36, kc_767, kc_769, kc_768, kc_148, Nat.le_of_ble_eq_true rfl, Nat.le_of_ble_eq_true rfl⟩
