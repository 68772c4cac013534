/-! ===== The world behind the constructors ===== -/
def cn_mu (m1 m2 : Mu) : Mu := fun o k => if o < 20 then (if o = 0 then (if k = 7 then 20 else if k = 8 then 31 else 0) else 0) else if o < 31 then m1 (o - 20) k else if o < 42 then m2 (o - 31) k else if o = 42 then (if k = 1 then (-1) else if k = 7 then 31 else 0) else 0
section Pic
variable (X : AX) (m1 m2 : Mu)
theorem cn_mu_c {o : Int} (h : 0 < o ∧ o < 20) : cn_mu m1 m2 o = fun _ => 0 := by
  funext k; unfold cn_mu; rw [if_pos h.2, if_neg (by omega)]
theorem cn_mu_a {o : Int} (j : Int) (h : o = 20 + j) (h1 : 0 ≤ j ∧ j ≤ 10) : cn_mu m1 m2 o = m1 j := by
  funext k; unfold cn_mu; rw [if_neg (by omega), if_pos (by omega), show o - 20 = j by omega]
theorem cn_mu_b {o : Int} (j : Int) (h : o = 31 + j) (h1 : 0 ≤ j ∧ j ≤ 10) : cn_mu m1 m2 o = m2 j := by
  funext k; unfold cn_mu; rw [if_neg (by omega), if_neg (by omega), if_pos (by omega), show o - 31 = j by omega]
theorem cn_mu_z {o : Int} (h : 42 < o) : cn_mu m1 m2 o = fun _ => 0 := by
  funext k; unfold cn_mu; rw [if_neg (by omega), if_neg (by omega), if_neg (by omega), if_neg (by omega)]
theorem cn_mu_0 : cn_mu m1 m2 0 = fun k => if k = 7 then 20 else if k = 8 then 31 else 0 := by funext k; rfl
theorem cn_mu_42 : cn_mu m1 m2 42 = fun k => if k = 1 then (-1) else if k = 7 then 31 else 0 := by funext k; rfl
theorem cn_elr {G : AG} {μ : Mu} {o t n : Nat} {f : Int → Int} (hs : (gS G)[o]? = some (t + 20, n)) (h : t < 3) (hf : μ o = f) : am_el G μ o = .inl (gC G t, n, .inl fun j => Int32.ofInt (f j)) := by
  subst hf; exact am_el_row hs h
theorem cn_elL {G : AG} {μ : Mu} {o n : Nat} {f : Int → Int} (hs : (gS G)[o]? = some (23, n)) (hf : μ o = f) : am_el G μ o = .inl (gC G 3, n, .inr (.inl fun j => Int64.ofInt (f j))) := by
  subst hf; exact am_el_rowL hs
def cn_fw (G : AG) (ci o k : Nat) (f : Int → Int) : Value := match am_ct ci k with
  | 0 => .int (Int32.ofInt (f k))
  | 1 => .int (Int32.ofInt (f k))
  | 2 => am_ref G (gR G o k)
  | _ => am_ref G (f k)
theorem cn_elo {G : AG} {μ : Mu} {o ci n : Nat} {f : Int → Int} {l : List Value} (hs : (gS G)[o]? = some (ci, n)) (h : ci < 20) (hf : μ o = f) (hl : (List.range n).map (fun k => cn_fw G ci o k f) = l) : am_el G μ o = .inr (ci, l) := by
  subst hf; subst hl; exact am_el_obj hs h
theorem cn_el_0 : am_el (GG X) (cn_mu m1 m2) 0 = .inr (7, [.ref (X.2.2.1 1), .ref (X.2.2.1 42), .ref (X.2.2.1 3), .ref (X.2.2.1 6), .ref (X.2.2.1 15), .ref (X.2.2.1 16), .ref (X.2.2.1 19), .ref (X.2.2.1 20), .ref (X.2.2.1 31)]) := cn_elo rfl (by decide) (cn_mu_0 m1 m2) rfl
theorem cn_el_1 : am_el (GG X) (cn_mu m1 m2) 1 = .inr (5, [.ref (X.2.2.1 2), .int (Int32.ofInt 0)]) := cn_elo rfl (by decide) (cn_mu_c m1 m2 (by decide)) rfl
theorem cn_el_2 : am_el (GG X) (cn_mu m1 m2) 2 = .inl (X.2.1 0, 900, .inl fun _ => Int32.ofInt 0) := cn_elr (t := 0) rfl (by decide) (cn_mu_c m1 m2 (by decide))
theorem cn_el_3 : am_el (GG X) (cn_mu m1 m2) 3 = .inr (1, [.ref (X.2.2.1 4), .ref (X.2.2.1 5), .int (Int32.ofInt 0)]) := cn_elo rfl (by decide) (cn_mu_c m1 m2 (by decide)) rfl
theorem cn_el_4 : am_el (GG X) (cn_mu m1 m2) 4 = .inl (X.2.1 0, 20, .inl fun _ => Int32.ofInt 0) := cn_elr (t := 0) rfl (by decide) (cn_mu_c m1 m2 (by decide))
theorem cn_el_5 : am_el (GG X) (cn_mu m1 m2) 5 = .inl (X.2.1 0, 20, .inl fun _ => Int32.ofInt 0) := cn_elr (t := 0) rfl (by decide) (cn_mu_c m1 m2 (by decide))
theorem cn_el_6 : am_el (GG X) (cn_mu m1 m2) 6 = .inr (0, [.int (Int32.ofInt 0), .int (Int32.ofInt 0), .int (Int32.ofInt 0), .int (Int32.ofInt 0), .int (Int32.ofInt 0), .ref (X.2.2.1 7), .ref (X.2.2.1 8), .ref (X.2.2.1 9), .ref (X.2.2.1 10), .ref (X.2.2.1 11), .ref (X.2.2.1 12), .int (Int32.ofInt 0), .ref (X.2.2.1 13), .ref (X.2.2.1 14), .int (Int32.ofInt 0), .int (Int32.ofInt 0), .int (Int32.ofInt 0), .int (Int32.ofInt 0)]) := cn_elo rfl (by decide) (cn_mu_c m1 m2 (by decide)) rfl
theorem cn_el_7 : am_el (GG X) (cn_mu m1 m2) 7 = .inl (X.2.1 0, 64, .inl fun _ => Int32.ofInt 0) := cn_elr (t := 0) rfl (by decide) (cn_mu_c m1 m2 (by decide))
theorem cn_el_8 : am_el (GG X) (cn_mu m1 m2) 8 = .inl (X.2.1 0, 64, .inl fun _ => Int32.ofInt 0) := cn_elr (t := 0) rfl (by decide) (cn_mu_c m1 m2 (by decide))
theorem cn_el_9 : am_el (GG X) (cn_mu m1 m2) 9 = .inl (X.2.1 0, 64, .inl fun _ => Int32.ofInt 0) := cn_elr (t := 0) rfl (by decide) (cn_mu_c m1 m2 (by decide))
theorem cn_el_10 : am_el (GG X) (cn_mu m1 m2) 10 = .inl (X.2.1 0, 64, .inl fun _ => Int32.ofInt 0) := cn_elr (t := 0) rfl (by decide) (cn_mu_c m1 m2 (by decide))
theorem cn_el_11 : am_el (GG X) (cn_mu m1 m2) 11 = .inl (X.2.1 0, 64, .inl fun _ => Int32.ofInt 0) := cn_elr (t := 0) rfl (by decide) (cn_mu_c m1 m2 (by decide))
theorem cn_el_12 : am_el (GG X) (cn_mu m1 m2) 12 = .inl (X.2.1 3, 595, .inr (.inl fun _ => Int64.ofInt 0)) := cn_elL rfl (cn_mu_c m1 m2 (by decide))
theorem cn_el_13 : am_el (GG X) (cn_mu m1 m2) 13 = .inl (X.2.1 1, 25, .inl fun _ => Int32.ofInt 0) := cn_elr (t := 1) rfl (by decide) (cn_mu_c m1 m2 (by decide))
theorem cn_el_14 : am_el (GG X) (cn_mu m1 m2) 14 = .inl (X.2.1 0, 64, .inl fun _ => Int32.ofInt 0) := cn_elr (t := 0) rfl (by decide) (cn_mu_c m1 m2 (by decide))
theorem cn_el_15 : am_el (GG X) (cn_mu m1 m2) 15 = .inr (6, [.int (Int32.ofInt 0), .int (Int32.ofInt 0), .int (Int32.ofInt 0), .int (Int32.ofInt 0)]) := cn_elo rfl (by decide) (cn_mu_c m1 m2 (by decide)) rfl
theorem cn_el_16 : am_el (GG X) (cn_mu m1 m2) 16 = .inr (4, [.int (Int32.ofInt 0), .ref (X.2.2.1 17), .ref (X.2.2.1 18)]) := cn_elo rfl (by decide) (cn_mu_c m1 m2 (by decide)) rfl
theorem cn_el_17 : am_el (GG X) (cn_mu m1 m2) 17 = .inl (X.2.1 0, 3993, .inl fun _ => Int32.ofInt 0) := cn_elr (t := 0) rfl (by decide) (cn_mu_c m1 m2 (by decide))
theorem cn_el_18 : am_el (GG X) (cn_mu m1 m2) 18 = .inl (X.2.1 0, 121, .inl fun _ => Int32.ofInt 0) := cn_elr (t := 0) rfl (by decide) (cn_mu_c m1 m2 (by decide))
theorem cn_el_19 : am_el (GG X) (cn_mu m1 m2) 19 = .inl (X.2.1 0, 64, .inl fun _ => Int32.ofInt 0) := cn_elr (t := 0) rfl (by decide) (cn_mu_c m1 m2 (by decide))
theorem cn_el_20 : am_el (GG X) (cn_mu m1 m2) 20 = .inr (2, [.int (Int32.ofInt (m1 0 0)), .int (Int32.ofInt (m1 0 1)), .int (Int32.ofInt (m1 0 2)), .int (Int32.ofInt (m1 0 3)), .int (Int32.ofInt (m1 0 4)), .ref (X.2.2.1 21), .ref (X.2.2.1 22), .int (Int32.ofInt (m1 0 7)), .ref (X.2.2.1 23), .ref (X.2.2.1 24), .ref (X.2.2.1 25), .ref (X.2.2.1 26), .ref (X.2.2.1 27), .ref (X.2.2.1 28), .int (Int32.ofInt (m1 0 14)), .ref (X.2.2.1 29), .ref (X.2.2.1 30)]) := cn_elo rfl (by decide) (cn_mu_a m1 m2 0 (by decide) (by decide)) rfl
theorem cn_el_21 : am_el (GG X) (cn_mu m1 m2) 21 = .inl (X.2.1 0, 12, .inl fun j => Int32.ofInt (m1 1 j)) := cn_elr (t := 0) rfl (by decide) (cn_mu_a m1 m2 1 (by decide) (by decide))
theorem cn_el_22 : am_el (GG X) (cn_mu m1 m2) 22 = .inl (X.2.1 0, 4, .inl fun j => Int32.ofInt (m1 2 j)) := cn_elr (t := 0) rfl (by decide) (cn_mu_a m1 m2 2 (by decide) (by decide))
theorem cn_el_23 : am_el (GG X) (cn_mu m1 m2) 23 = .inl (X.2.1 0, 64, .inl fun j => Int32.ofInt (m1 3 j)) := cn_elr (t := 0) rfl (by decide) (cn_mu_a m1 m2 3 (by decide) (by decide))
theorem cn_el_24 : am_el (GG X) (cn_mu m1 m2) 24 = .inl (X.2.1 1, 64, .inl fun j => Int32.ofInt (m1 4 j)) := cn_elr (t := 1) rfl (by decide) (cn_mu_a m1 m2 4 (by decide) (by decide))
theorem cn_el_25 : am_el (GG X) (cn_mu m1 m2) 25 = .inl (X.2.1 0, 64, .inl fun j => Int32.ofInt (m1 5 j)) := cn_elr (t := 0) rfl (by decide) (cn_mu_a m1 m2 5 (by decide) (by decide))
theorem cn_el_26 : am_el (GG X) (cn_mu m1 m2) 26 = .inl (X.2.1 0, 64, .inl fun j => Int32.ofInt (m1 6 j)) := cn_elr (t := 0) rfl (by decide) (cn_mu_a m1 m2 6 (by decide) (by decide))
theorem cn_el_27 : am_el (GG X) (cn_mu m1 m2) 27 = .inl (X.2.1 0, 64, .inl fun j => Int32.ofInt (m1 7 j)) := cn_elr (t := 0) rfl (by decide) (cn_mu_a m1 m2 7 (by decide) (by decide))
theorem cn_el_28 : am_el (GG X) (cn_mu m1 m2) 28 = .inl (X.2.1 0, 64, .inl fun j => Int32.ofInt (m1 8 j)) := cn_elr (t := 0) rfl (by decide) (cn_mu_a m1 m2 8 (by decide) (by decide))
theorem cn_el_29 : am_el (GG X) (cn_mu m1 m2) 29 = .inl (X.2.1 0, 32, .inl fun j => Int32.ofInt (m1 9 j)) := cn_elr (t := 0) rfl (by decide) (cn_mu_a m1 m2 9 (by decide) (by decide))
theorem cn_el_30 : am_el (GG X) (cn_mu m1 m2) 30 = .inl (X.2.1 0, 32, .inl fun j => Int32.ofInt (m1 10 j)) := cn_elr (t := 0) rfl (by decide) (cn_mu_a m1 m2 10 (by decide) (by decide))
theorem cn_el_31 : am_el (GG X) (cn_mu m1 m2) 31 = .inr (2, [.int (Int32.ofInt (m2 0 0)), .int (Int32.ofInt (m2 0 1)), .int (Int32.ofInt (m2 0 2)), .int (Int32.ofInt (m2 0 3)), .int (Int32.ofInt (m2 0 4)), .ref (X.2.2.1 32), .ref (X.2.2.1 33), .int (Int32.ofInt (m2 0 7)), .ref (X.2.2.1 34), .ref (X.2.2.1 35), .ref (X.2.2.1 36), .ref (X.2.2.1 37), .ref (X.2.2.1 38), .ref (X.2.2.1 39), .int (Int32.ofInt (m2 0 14)), .ref (X.2.2.1 40), .ref (X.2.2.1 41)]) := cn_elo rfl (by decide) (cn_mu_b m1 m2 0 (by decide) (by decide)) rfl
theorem cn_el_32 : am_el (GG X) (cn_mu m1 m2) 32 = .inl (X.2.1 0, 12, .inl fun j => Int32.ofInt (m2 1 j)) := cn_elr (t := 0) rfl (by decide) (cn_mu_b m1 m2 1 (by decide) (by decide))
theorem cn_el_33 : am_el (GG X) (cn_mu m1 m2) 33 = .inl (X.2.1 0, 4, .inl fun j => Int32.ofInt (m2 2 j)) := cn_elr (t := 0) rfl (by decide) (cn_mu_b m1 m2 2 (by decide) (by decide))
theorem cn_el_34 : am_el (GG X) (cn_mu m1 m2) 34 = .inl (X.2.1 0, 64, .inl fun j => Int32.ofInt (m2 3 j)) := cn_elr (t := 0) rfl (by decide) (cn_mu_b m1 m2 3 (by decide) (by decide))
theorem cn_el_35 : am_el (GG X) (cn_mu m1 m2) 35 = .inl (X.2.1 1, 64, .inl fun j => Int32.ofInt (m2 4 j)) := cn_elr (t := 1) rfl (by decide) (cn_mu_b m1 m2 4 (by decide) (by decide))
theorem cn_el_36 : am_el (GG X) (cn_mu m1 m2) 36 = .inl (X.2.1 0, 64, .inl fun j => Int32.ofInt (m2 5 j)) := cn_elr (t := 0) rfl (by decide) (cn_mu_b m1 m2 5 (by decide) (by decide))
theorem cn_el_37 : am_el (GG X) (cn_mu m1 m2) 37 = .inl (X.2.1 0, 64, .inl fun j => Int32.ofInt (m2 6 j)) := cn_elr (t := 0) rfl (by decide) (cn_mu_b m1 m2 6 (by decide) (by decide))
theorem cn_el_38 : am_el (GG X) (cn_mu m1 m2) 38 = .inl (X.2.1 0, 64, .inl fun j => Int32.ofInt (m2 7 j)) := cn_elr (t := 0) rfl (by decide) (cn_mu_b m1 m2 7 (by decide) (by decide))
theorem cn_el_39 : am_el (GG X) (cn_mu m1 m2) 39 = .inl (X.2.1 0, 64, .inl fun j => Int32.ofInt (m2 8 j)) := cn_elr (t := 0) rfl (by decide) (cn_mu_b m1 m2 8 (by decide) (by decide))
theorem cn_el_40 : am_el (GG X) (cn_mu m1 m2) 40 = .inl (X.2.1 0, 32, .inl fun j => Int32.ofInt (m2 9 j)) := cn_elr (t := 0) rfl (by decide) (cn_mu_b m1 m2 9 (by decide) (by decide))
theorem cn_el_41 : am_el (GG X) (cn_mu m1 m2) 41 = .inl (X.2.1 0, 32, .inl fun j => Int32.ofInt (m2 10 j)) := cn_elr (t := 0) rfl (by decide) (cn_mu_b m1 m2 10 (by decide) (by decide))
theorem cn_el_42 : am_el (GG X) (cn_mu m1 m2) 42 = .inr (3, [.int (Int32.ofInt 0), .int (Int32.ofInt (-1)), .ref (X.2.2.1 2), .int (Int32.ofInt 0), .int (Int32.ofInt 0), .int (Int32.ofInt 0), .int (Int32.ofInt 0), .ref (X.2.2.1 31), .ref (X.2.2.1 43), .ref (X.2.2.1 44)]) := cn_elo rfl (by decide) (cn_mu_42 m1 m2) rfl
theorem cn_el_43 : am_el (GG X) (cn_mu m1 m2) 43 = .inl (X.2.1 1, 3, .inl fun _ => Int32.ofInt 0) := cn_elr (t := 1) rfl (by decide) (cn_mu_z m1 m2 (by decide))
theorem cn_el_44 : am_el (GG X) (cn_mu m1 m2) 44 = .inl (X.2.1 1, 4, .inl fun _ => Int32.ofInt 0) := cn_elr (t := 1) rfl (by decide) (cn_mu_z m1 m2 (by decide))
theorem cn_split : am_pic (GG X) (cn_mu m1 m2) = [(X.2.2.1 0, .inr (7, [.ref (X.2.2.1 1), .ref (X.2.2.1 42), .ref (X.2.2.1 3), .ref (X.2.2.1 6), .ref (X.2.2.1 15), .ref (X.2.2.1 16), .ref (X.2.2.1 19), .ref (X.2.2.1 20), .ref (X.2.2.1 31)])), (X.2.2.1 1, .inr (5, [.ref (X.2.2.1 2), .int (Int32.ofInt 0)])), (X.2.2.1 2, .inl (X.2.1 0, 900, .inl fun _ => Int32.ofInt 0)), (X.2.2.1 3, .inr (1, [.ref (X.2.2.1 4), .ref (X.2.2.1 5), .int (Int32.ofInt 0)])), (X.2.2.1 4, .inl (X.2.1 0, 20, .inl fun _ => Int32.ofInt 0)), (X.2.2.1 5, .inl (X.2.1 0, 20, .inl fun _ => Int32.ofInt 0)), (X.2.2.1 6, .inr (0, [.int (Int32.ofInt 0), .int (Int32.ofInt 0), .int (Int32.ofInt 0), .int (Int32.ofInt 0), .int (Int32.ofInt 0), .ref (X.2.2.1 7), .ref (X.2.2.1 8), .ref (X.2.2.1 9), .ref (X.2.2.1 10), .ref (X.2.2.1 11), .ref (X.2.2.1 12), .int (Int32.ofInt 0), .ref (X.2.2.1 13), .ref (X.2.2.1 14), .int (Int32.ofInt 0), .int (Int32.ofInt 0), .int (Int32.ofInt 0), .int (Int32.ofInt 0)])), (X.2.2.1 7, .inl (X.2.1 0, 64, .inl fun _ => Int32.ofInt 0)), (X.2.2.1 8, .inl (X.2.1 0, 64, .inl fun _ => Int32.ofInt 0)), (X.2.2.1 9, .inl (X.2.1 0, 64, .inl fun _ => Int32.ofInt 0)), (X.2.2.1 10, .inl (X.2.1 0, 64, .inl fun _ => Int32.ofInt 0)), (X.2.2.1 11, .inl (X.2.1 0, 64, .inl fun _ => Int32.ofInt 0)), (X.2.2.1 12, .inl (X.2.1 3, 595, .inr (.inl fun _ => Int64.ofInt 0))), (X.2.2.1 13, .inl (X.2.1 1, 25, .inl fun _ => Int32.ofInt 0)), (X.2.2.1 14, .inl (X.2.1 0, 64, .inl fun _ => Int32.ofInt 0)), (X.2.2.1 15, .inr (6, [.int (Int32.ofInt 0), .int (Int32.ofInt 0), .int (Int32.ofInt 0), .int (Int32.ofInt 0)])), (X.2.2.1 16, .inr (4, [.int (Int32.ofInt 0), .ref (X.2.2.1 17), .ref (X.2.2.1 18)])), (X.2.2.1 17, .inl (X.2.1 0, 3993, .inl fun _ => Int32.ofInt 0)), (X.2.2.1 18, .inl (X.2.1 0, 121, .inl fun _ => Int32.ofInt 0)), (X.2.2.1 19, .inl (X.2.1 0, 64, .inl fun _ => Int32.ofInt 0))] ++ [(X.2.2.1 20, .inr (2, [.int (Int32.ofInt (m1 0 0)), .int (Int32.ofInt (m1 0 1)), .int (Int32.ofInt (m1 0 2)), .int (Int32.ofInt (m1 0 3)), .int (Int32.ofInt (m1 0 4)), .ref (X.2.2.1 21), .ref (X.2.2.1 22), .int (Int32.ofInt (m1 0 7)), .ref (X.2.2.1 23), .ref (X.2.2.1 24), .ref (X.2.2.1 25), .ref (X.2.2.1 26), .ref (X.2.2.1 27), .ref (X.2.2.1 28), .int (Int32.ofInt (m1 0 14)), .ref (X.2.2.1 29), .ref (X.2.2.1 30)])), (X.2.2.1 21, .inl (X.2.1 0, 12, .inl fun j => Int32.ofInt (m1 1 j))), (X.2.2.1 22, .inl (X.2.1 0, 4, .inl fun j => Int32.ofInt (m1 2 j))), (X.2.2.1 23, .inl (X.2.1 0, 64, .inl fun j => Int32.ofInt (m1 3 j))), (X.2.2.1 24, .inl (X.2.1 1, 64, .inl fun j => Int32.ofInt (m1 4 j))), (X.2.2.1 25, .inl (X.2.1 0, 64, .inl fun j => Int32.ofInt (m1 5 j))), (X.2.2.1 26, .inl (X.2.1 0, 64, .inl fun j => Int32.ofInt (m1 6 j))), (X.2.2.1 27, .inl (X.2.1 0, 64, .inl fun j => Int32.ofInt (m1 7 j))), (X.2.2.1 28, .inl (X.2.1 0, 64, .inl fun j => Int32.ofInt (m1 8 j))), (X.2.2.1 29, .inl (X.2.1 0, 32, .inl fun j => Int32.ofInt (m1 9 j))), (X.2.2.1 30, .inl (X.2.1 0, 32, .inl fun j => Int32.ofInt (m1 10 j)))] ++ [(X.2.2.1 31, .inr (2, [.int (Int32.ofInt (m2 0 0)), .int (Int32.ofInt (m2 0 1)), .int (Int32.ofInt (m2 0 2)), .int (Int32.ofInt (m2 0 3)), .int (Int32.ofInt (m2 0 4)), .ref (X.2.2.1 32), .ref (X.2.2.1 33), .int (Int32.ofInt (m2 0 7)), .ref (X.2.2.1 34), .ref (X.2.2.1 35), .ref (X.2.2.1 36), .ref (X.2.2.1 37), .ref (X.2.2.1 38), .ref (X.2.2.1 39), .int (Int32.ofInt (m2 0 14)), .ref (X.2.2.1 40), .ref (X.2.2.1 41)])), (X.2.2.1 32, .inl (X.2.1 0, 12, .inl fun j => Int32.ofInt (m2 1 j))), (X.2.2.1 33, .inl (X.2.1 0, 4, .inl fun j => Int32.ofInt (m2 2 j))), (X.2.2.1 34, .inl (X.2.1 0, 64, .inl fun j => Int32.ofInt (m2 3 j))), (X.2.2.1 35, .inl (X.2.1 1, 64, .inl fun j => Int32.ofInt (m2 4 j))), (X.2.2.1 36, .inl (X.2.1 0, 64, .inl fun j => Int32.ofInt (m2 5 j))), (X.2.2.1 37, .inl (X.2.1 0, 64, .inl fun j => Int32.ofInt (m2 6 j))), (X.2.2.1 38, .inl (X.2.1 0, 64, .inl fun j => Int32.ofInt (m2 7 j))), (X.2.2.1 39, .inl (X.2.1 0, 64, .inl fun j => Int32.ofInt (m2 8 j))), (X.2.2.1 40, .inl (X.2.1 0, 32, .inl fun j => Int32.ofInt (m2 9 j))), (X.2.2.1 41, .inl (X.2.1 0, 32, .inl fun j => Int32.ofInt (m2 10 j)))] ++ [(X.2.2.1 42, .inr (3, [.int (Int32.ofInt 0), .int (Int32.ofInt (-1)), .ref (X.2.2.1 2), .int (Int32.ofInt 0), .int (Int32.ofInt 0), .int (Int32.ofInt 0), .int (Int32.ofInt 0), .ref (X.2.2.1 31), .ref (X.2.2.1 43), .ref (X.2.2.1 44)])), (X.2.2.1 43, .inl (X.2.1 1, 3, .inl fun _ => Int32.ofInt 0)), (X.2.2.1 44, .inl (X.2.1 1, 4, .inl fun _ => Int32.ofInt 0))] := by
  show (List.range 45).map _ = _
  rw [show List.range 45 = [0, 1, 2, 3, 4, 5, 6, 7, 8, 9, 10, 11, 12, 13, 14, 15, 16, 17, 18, 19, 20, 21, 22, 23, 24, 25, 26, 27, 28, 29, 30, 31, 32, 33, 34, 35, 36, 37, 38, 39, 40, 41, 42, 43, 44] from rfl]
  simp only [List.map_cons, List.map_nil, cn_el_0, cn_el_1, cn_el_2, cn_el_3, cn_el_4, cn_el_5, cn_el_6, cn_el_7, cn_el_8, cn_el_9, cn_el_10, cn_el_11, cn_el_12, cn_el_13, cn_el_14, cn_el_15, cn_el_16, cn_el_17, cn_el_18, cn_el_19, cn_el_20, cn_el_21, cn_el_22, cn_el_23, cn_el_24, cn_el_25, cn_el_26, cn_el_27, cn_el_28, cn_el_29, cn_el_30, cn_el_31, cn_el_32, cn_el_33, cn_el_34, cn_el_35, cn_el_36, cn_el_37, cn_el_38, cn_el_39, cn_el_40, cn_el_41, cn_el_42, cn_el_43, cn_el_44]
  rfl
end Pic
section PicP
variable (X : AX) (f : Nat → Nat) (m : Mu)
theorem cn_pl_0 : am_el (GP (X.1, X.2.1, f, X.2.2.2.1, X.2.2.2.2)) m 0 = .inr (2, [.int (Int32.ofInt (m 0 0)), .int (Int32.ofInt (m 0 1)), .int (Int32.ofInt (m 0 2)), .int (Int32.ofInt (m 0 3)), .int (Int32.ofInt (m 0 4)), .ref (f 1), .ref (f 2), .int (Int32.ofInt (m 0 7)), .ref (f 3), .ref (f 4), .ref (f 5), .ref (f 6), .ref (f 7), .ref (f 8), .int (Int32.ofInt (m 0 14)), .ref (f 9), .ref (f 10)]) := cn_elo rfl (by decide) rfl rfl
theorem cn_pl_1 : am_el (GP (X.1, X.2.1, f, X.2.2.2.1, X.2.2.2.2)) m 1 = .inl (X.2.1 0, 12, .inl fun j => Int32.ofInt (m 1 j)) := cn_elr (t := 0) rfl (by decide) rfl
theorem cn_pl_2 : am_el (GP (X.1, X.2.1, f, X.2.2.2.1, X.2.2.2.2)) m 2 = .inl (X.2.1 0, 4, .inl fun j => Int32.ofInt (m 2 j)) := cn_elr (t := 0) rfl (by decide) rfl
theorem cn_pl_3 : am_el (GP (X.1, X.2.1, f, X.2.2.2.1, X.2.2.2.2)) m 3 = .inl (X.2.1 0, 64, .inl fun j => Int32.ofInt (m 3 j)) := cn_elr (t := 0) rfl (by decide) rfl
theorem cn_pl_4 : am_el (GP (X.1, X.2.1, f, X.2.2.2.1, X.2.2.2.2)) m 4 = .inl (X.2.1 1, 64, .inl fun j => Int32.ofInt (m 4 j)) := cn_elr (t := 1) rfl (by decide) rfl
theorem cn_pl_5 : am_el (GP (X.1, X.2.1, f, X.2.2.2.1, X.2.2.2.2)) m 5 = .inl (X.2.1 0, 64, .inl fun j => Int32.ofInt (m 5 j)) := cn_elr (t := 0) rfl (by decide) rfl
theorem cn_pl_6 : am_el (GP (X.1, X.2.1, f, X.2.2.2.1, X.2.2.2.2)) m 6 = .inl (X.2.1 0, 64, .inl fun j => Int32.ofInt (m 6 j)) := cn_elr (t := 0) rfl (by decide) rfl
theorem cn_pl_7 : am_el (GP (X.1, X.2.1, f, X.2.2.2.1, X.2.2.2.2)) m 7 = .inl (X.2.1 0, 64, .inl fun j => Int32.ofInt (m 7 j)) := cn_elr (t := 0) rfl (by decide) rfl
theorem cn_pl_8 : am_el (GP (X.1, X.2.1, f, X.2.2.2.1, X.2.2.2.2)) m 8 = .inl (X.2.1 0, 64, .inl fun j => Int32.ofInt (m 8 j)) := cn_elr (t := 0) rfl (by decide) rfl
theorem cn_pl_9 : am_el (GP (X.1, X.2.1, f, X.2.2.2.1, X.2.2.2.2)) m 9 = .inl (X.2.1 0, 32, .inl fun j => Int32.ofInt (m 9 j)) := cn_elr (t := 0) rfl (by decide) rfl
theorem cn_pl_10 : am_el (GP (X.1, X.2.1, f, X.2.2.2.1, X.2.2.2.2)) m 10 = .inl (X.2.1 0, 32, .inl fun j => Int32.ofInt (m 10 j)) := cn_elr (t := 0) rfl (by decide) rfl
theorem cn_psplit : am_pic (GP (X.1, X.2.1, f, X.2.2.2.1, X.2.2.2.2)) m = [(f 0, .inr (2, [.int (Int32.ofInt (m 0 0)), .int (Int32.ofInt (m 0 1)), .int (Int32.ofInt (m 0 2)), .int (Int32.ofInt (m 0 3)), .int (Int32.ofInt (m 0 4)), .ref (f 1), .ref (f 2), .int (Int32.ofInt (m 0 7)), .ref (f 3), .ref (f 4), .ref (f 5), .ref (f 6), .ref (f 7), .ref (f 8), .int (Int32.ofInt (m 0 14)), .ref (f 9), .ref (f 10)])), (f 1, .inl (X.2.1 0, 12, .inl fun j => Int32.ofInt (m 1 j))), (f 2, .inl (X.2.1 0, 4, .inl fun j => Int32.ofInt (m 2 j))), (f 3, .inl (X.2.1 0, 64, .inl fun j => Int32.ofInt (m 3 j))), (f 4, .inl (X.2.1 1, 64, .inl fun j => Int32.ofInt (m 4 j))), (f 5, .inl (X.2.1 0, 64, .inl fun j => Int32.ofInt (m 5 j))), (f 6, .inl (X.2.1 0, 64, .inl fun j => Int32.ofInt (m 6 j))), (f 7, .inl (X.2.1 0, 64, .inl fun j => Int32.ofInt (m 7 j))), (f 8, .inl (X.2.1 0, 64, .inl fun j => Int32.ofInt (m 8 j))), (f 9, .inl (X.2.1 0, 32, .inl fun j => Int32.ofInt (m 9 j))), (f 10, .inl (X.2.1 0, 32, .inl fun j => Int32.ofInt (m 10 j)))] := by
  show (List.range 11).map _ = _
  rw [show List.range 11 = [0, 1, 2, 3, 4, 5, 6, 7, 8, 9, 10] from rfl]
  simp only [List.map_cons, List.map_nil, cn_pl_0, cn_pl_1, cn_pl_2, cn_pl_3, cn_pl_4, cn_pl_5, cn_pl_6, cn_pl_7, cn_pl_8, cn_pl_9, cn_pl_10]
  rfl
end PicP
set_option maxRecDepth 100000 in
set_option maxHeartbeats 4000000 in
theorem cn_pic (X : AX) (f7 : (Nat → Nat) × Mu × Mu) : cn_W7 X f7 = am_pic (GG (X.1, X.2.1, f7.1, X.2.2.2.1, X.2.2.2.2)) (cn_mu f7.2.1 f7.2.2) := by
  rw [cn_split]
  unfold cn_W7 cn_W2
  rw [cn_psplit, cn_psplit]
  rfl
