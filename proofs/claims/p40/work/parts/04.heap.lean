/-! ===== The classes, and the rows over fields, rows of numbers, calls ===== -/
theorem tw_list (ws : List Cond) (ps : List Nat) (hp : ws = ps.filterMap (fun i => lw_tbl[i]?)) (hg : ws.all goodWord = true) : ∀ w ∈ ws, w ∈ TW := by
  intro w hw
  have h1 := List.all_eq_true.mp hg w hw
  rw [hp] at hw
  obtain ⟨i, -, hi⟩ := List.mem_filterMap.mp hw
  exact tw_in i hi h1
set_option maxRecDepth 20000 in
theorem tw_X0 : ∀ w ∈ u_ws RX0 TX0 18, w ∈ TW := tw_list _ [145, 147, 149, 151, 153, 155, 157, 159, 161, 163, 165, 167, 169, 171, 173, 175, 177, 179] (by decide +kernel) (by decide +kernel)
set_option maxRecDepth 20000 in
theorem tw_X1 : ∀ w ∈ u_ws RX1 TX1 3, w ∈ TW := tw_list _ [108, 110, 112] (by decide +kernel) (by decide +kernel)
set_option maxRecDepth 20000 in
theorem tw_X2 : ∀ w ∈ u_ws RX2 TX2 17, w ∈ TW := tw_list _ [277, 279, 281, 283, 285, 287, 289, 291, 293, 295, 297, 299, 301, 303, 305, 307, 309] (by decide +kernel) (by decide +kernel)
set_option maxRecDepth 20000 in
theorem tw_X3 : ∀ w ∈ u_ws RX3 TX3 10, w ∈ TW := tw_list _ [328, 330, 332, 334, 336, 338, 340, 342, 344, 346] (by decide +kernel) (by decide +kernel)
set_option maxRecDepth 20000 in
theorem tw_X4 : ∀ w ∈ u_ws RX4 TX4 3, w ∈ TW := tw_list _ [211, 213, 215] (by decide +kernel) (by decide +kernel)
set_option maxRecDepth 20000 in
theorem tw_X5 : ∀ w ∈ u_ws RX5 TX5 2, w ∈ TW := tw_list _ [92, 94] (by decide +kernel) (by decide +kernel)
set_option maxRecDepth 20000 in
theorem tw_X6 : ∀ w ∈ u_ws RX6 TX6 4, w ∈ TW := tw_list _ [194, 196, 198, 200] (by decide +kernel) (by decide +kernel)
set_option maxRecDepth 20000 in
theorem tw_X7 : ∀ w ∈ u_ws RX7 TX7 9, w ∈ TW := tw_list _ [358, 360, 362, 364, 366, 368, 370, 372, 374] (by decide +kernel) (by decide +kernel)
set_option maxRecDepth 20000 in
theorem tw_J0 : ∀ w ∈ u_ws RJ0 TJ0 4, w ∈ TW := tw_list _ [969, 971, 973, 975] (by decide +kernel) (by decide +kernel)
set_option maxRecDepth 20000 in
theorem tw_J4 : ∀ w ∈ u_ws RJ4 TJ4 4, w ∈ TW := tw_list _ [816, 818, 820, 822] (by decide +kernel) (by decide +kernel)
def am_N (ci : Nat) : Nat := [18, 3, 17, 10, 3, 2, 4, 9, 4, 4].getD ci 0
theorem am_cls : ∀ (ci : Nat) (q : vw_C), vwCl[ci]? = some q → (∀ w ∈ u_ws q.1 q.2.1 q.2.2, w ∈ TW) ∧ (∀ k, k < q.2.2 → parseFieldDescriptor (q.2.1 k).2.2.1 = some (am_cty ci k)) ∧ (∀ a, a < q.2.2 → ∀ b, b < q.2.2 → a ≠ b → (q.2.1 a).2.1 ≠ (q.2.1 b).2.1) ∧ q.2.2 = am_N ci ∧ ci < 20 := by
  intro ci q h
  match ci, h with
  | 0, h => cases h; exact ⟨tw_X0, tyX0_ok, nmX0, rfl, by decide⟩
  | 1, h => cases h; exact ⟨tw_X1, tyX1_ok, nmX1, rfl, by decide⟩
  | 2, h => cases h; exact ⟨tw_X2, tyX2_ok, nmX2, rfl, by decide⟩
  | 3, h => cases h; exact ⟨tw_X3, tyX3_ok, nmX3, rfl, by decide⟩
  | 4, h => cases h; exact ⟨tw_X4, tyX4_ok, nmX4, rfl, by decide⟩
  | 5, h => cases h; exact ⟨tw_X5, tyX5_ok, nmX5, rfl, by decide⟩
  | 6, h => cases h; exact ⟨tw_X6, tyX6_ok, nmX6, rfl, by decide⟩
  | 7, h => cases h; exact ⟨tw_X7, tyX7_ok, nmX7, rfl, by decide⟩
  | 8, h => cases h; exact ⟨tw_J0, tyJ0_ok, nmJ0, rfl, by decide⟩
  | 9, h => cases h; exact ⟨tw_J4, tyJ4_ok, nmJ4, rfl, by decide⟩
  | n + 10, h => simp [vwCl] at h
/-- a read of a field: what the tables say of it -/
def am_Fg (M : AMeth) (pc ci k : Nat) : Prop := ∃ (idx : Nat) (q : vw_C), decode M.2.1 pc = .ok (.getfield idx, 3) ∧ vwCl[ci]? = some q ∧ k < q.2.2 ∧ Cond.fieldLink M.1.cls idx (q.2.1 k).1 (q.2.1 k).2.1 (q.2.1 k).2.2.1 ∈ TW
def am_Fp (M : AMeth) (pc ci k : Nat) : Prop := ∃ (idx : Nat) (q : vw_C), decode M.2.1 pc = .ok (.putfield idx, 3) ∧ vwCl[ci]? = some q ∧ k < q.2.2 ∧ Cond.fieldLink M.1.cls idx (q.2.1 k).1 (q.2.1 k).2.1 (q.2.1 k).2.2.1 ∈ TW ∧ (q.2.1 k).2.2.2 = false
theorem am_el_obj {G : AG} {μ : Mu} {o ci n : Nat} (hs : (gS G)[o]? = some (ci, n)) (h : ci < 20) : am_el G μ o = .inr (ci, (List.range n).map fun k => am_fv G ci o k μ) := by
  unfold am_el
  rw [am_sh_d hs]
  simp [h]
theorem am_el_row {G : AG} {μ : Mu} {o t n : Nat} (hs : (gS G)[o]? = some (t + 20, n)) (h : t < 3) : am_el G μ o = .inl (gC G t, n, .inl fun j => Int32.ofInt (μ o j)) := by
  unfold am_el
  rw [am_sh_d hs]
  simp [show ¬ t + 20 < 20 by omega, show ¬ t + 20 = 23 by omega]
theorem am_el_rowL {G : AG} {μ : Mu} {o n : Nat} (hs : (gS G)[o]? = some (23, n)) : am_el G μ o = .inl (gC G 3, n, .inr (.inl fun j => Int64.ofInt (μ o j))) := by
  unfold am_el
  rw [am_sh_d hs]
  simp
theorem am_pic_at {G : AG} {μ : Mu} {o : Nat} {x : Nat × Nat} {e : va_E} (hs : (gS G)[o]? = some x) (h : am_el G μ o = e) : (am_pic G μ)[o]? = some (gA G o, e) := by
  rw [am_pic_get (am_sh_lt hs), h]
theorem am_put_list {G : AG} {μ : Mu} {ci o n k : Nat} {v : Int} {x : Value} (hk : k < n) (hx : am_fv G ci o k (am_up μ o k v) = x) : ((List.range n).map fun j => am_fv G ci o j μ).set k x = (List.range n).map fun j => am_fv G ci o j (am_up μ o k v) := by
  apply List.ext_getElem?
  intro j
  by_cases hj : j < n
  · by_cases hjk : j = k
    · subst hjk
      rw [List.getElem?_set_self (by simpa using hj)]
      simp [List.getElem?_map, List.getElem?_range hj, hx]
    · rw [List.getElem?_set_ne (Ne.symm hjk)]
      simp only [List.getElem?_map, List.getElem?_range hj, Option.map_some]
      congr 1
      have hne : ¬ (j : Int) = (k : Int) := by omega
      unfold am_fv am_up
      simp [hne]
  · rw [List.getElem?_eq_none (by simpa using hj), List.getElem?_eq_none (by simpa using hj)]
section EvHeap
variable {G : AG} {M : AMeth} {pc : Nat} {ls st : List AV} {μ μ' : Mu} {r : Option AV}
theorem am_getf {ci k o n : Nat} (hf : am_Fg M pc ci k) (hs : (gS G)[o]? = some (ci, n)) (hn : n = am_N ci)
    {p : Program} {e : Env} {s : State} {m : MethodId} {args : Array Value} {below : List Frame} {meth : Method} {c : Code} {H : Heap} {locs : List Loc} {lsA : Array Slot} {Q : State → Prop} {rest : List Value}
    (hI : am_In G M p s m args meth c H locs lsA ls μ) (kk : am_W G M p e s m args below meth c H locs Q (pc + 3) lsA (am_fv G ci o k μ :: rest)) : am_W G M p e s m args below meth c H locs Q pc lsA (.ref (gA G o) :: rest) := by
  obtain ⟨idx, ⟨C, T, N⟩, hd, hc, hk, hw⟩ := hf
  obtain ⟨hin, hpa, hnm, hN, hci⟩ := am_cls ci _ hc
  obtain ⟨hX, hK, hP, hD, hS, hE, hl⟩ := hI
  have he := am_pic_at (G := G) (μ := μ) hs (am_el_obj hs hci)
  refine va_get (ref := (T k).1) hX.1 hX.2.1 hX.2.2.2.2.1 hin hX.2.2.2.1 hK hP o he hc k hk (hX.2.2.2.2.1 _ hw) (fun _ h => h) ?_ hd kk
  have hkn : k < n := by rw [hn, ← hN]; exact hk
  simp [List.getElem?_map, List.getElem?_range hkn]
theorem e_getI {ci k o : Nat} {z f : Int} (hf : am_Fg M pc ci k) (ho : z = (o : Int)) (hs : (gS G)[o]? = some (ci, am_N ci)) (ht : am_ct ci k < 2) (hk : f = (k : Int)) (kk : Ev G M (pc + 3) ls ((0, μ z f) :: st) μ r μ') : Ev G M pc ls ((2, z) :: st) μ r μ' := by
  subst ho; subst hk
  intro p e s m args below meth c H locs lsA hI
  rw [List.map_cons, am_ref_pos (by omega)]
  refine am_getf hf hs rfl hI ?_
  have h9 : am_fv G ci o k μ = am_c G (0, μ o k) := by
    unfold am_fv
    match h : am_ct ci k, ht with
    | 0, _ => rfl
    | 1, _ => rfl
  rw [h9]
  exact kk p e s m args below meth c H locs lsA hI
theorem e_getR {ci k o : Nat} {z x : Int} (hf : am_Fg M pc ci k) (ho : z = (o : Int)) (hs : (gS G)[o]? = some (ci, am_N ci)) (ht : am_ct ci k = 2) (hx : gR G o k = x) (kk : Ev G M (pc + 3) ls ((2, x) :: st) μ r μ') : Ev G M pc ls ((2, z) :: st) μ r μ' := by
  subst ho; subst hx
  intro p e s m args below meth c H locs lsA hI
  rw [List.map_cons, am_ref_pos (by omega)]
  refine am_getf hf hs rfl hI ?_
  have h9 : am_fv G ci o k μ = am_c G (2, gR G o k) := by unfold am_fv; rw [ht]; rfl
  rw [h9]
  exact kk p e s m args below meth c H locs lsA hI
theorem e_getD {ci k o : Nat} {z f : Int} (hf : am_Fg M pc ci k) (ho : z = (o : Int)) (hs : (gS G)[o]? = some (ci, am_N ci)) (ht : am_ct ci k = 3) (hk : f = (k : Int)) (kk : Ev G M (pc + 3) ls ((2, μ z f) :: st) μ r μ') : Ev G M pc ls ((2, z) :: st) μ r μ' := by
  subst ho; subst hk
  intro p e s m args below meth c H locs lsA hI
  rw [List.map_cons, am_ref_pos (by omega)]
  refine am_getf hf hs rfl hI ?_
  have h9 : am_fv G ci o k μ = am_c G (2, μ o k) := by unfold am_fv; rw [ht]; rfl
  rw [h9]
  exact kk p e s m args below meth c H locs lsA hI
theorem am_putf {ci k o n : Nat} {v : Int} {x : Value} (hf : am_Fp M pc ci k) (hs : (gS G)[o]? = some (ci, n)) (hn : n = am_N ci) (hx : am_fv G ci o k (am_up μ o k v) = x) (hnar : narrow (am_cty ci k) x = x) (hfit : fits (am_cty ci k) x = true)
    {p : Program} {e : Env} {s : State} {m : MethodId} {args : Array Value} {below : List Frame} {meth : Method} {c : Code} {H : Heap} {locs : List Loc} {lsA : Array Slot} {Q : State → Prop} {rest : List Value}
    (hI : am_In G M p s m args meth c H locs lsA ls μ) (kk : ∀ (H1 : Heap) (locs1 : List Loc), am_In G M p s m args meth c H1 locs1 lsA ls (am_up μ o k v) → am_W G M p e s m args below meth c H1 locs1 Q (pc + 3) lsA rest) : am_W G M p e s m args below meth c H locs Q pc lsA (x :: .ref (gA G o) :: rest) := by
  obtain ⟨idx, ⟨C, T, N⟩, hd, hc, hk, hw, hfin⟩ := hf
  obtain ⟨hin, hpa, hnm, hN, hci⟩ := am_cls ci _ hc
  obtain ⟨hX, hK, hP, hD, hS, hE, hl⟩ := hI
  have hkn : k < n := by rw [hn, ← hN]; exact hk
  have he := am_pic_at (G := G) (μ := μ) hs (am_el_obj hs hci)
  refine va_put (ref := (T k).1) hX.1 hX.2.1 hX.2.2.2.2.1 hin (am_cty ci) hpa hnm hX.2.2.2.1 hK hP hD hS o he hc k hk (hX.2.2.2.2.1 _ hw) (fun _ h => h) hfin (hpa k hk) hnar hfit (by simpa using hkn) hd (fun H1 locs1 hP1 hD1 hS1 => ?_)
  have h9 : (am_pic G μ).set o (gA G o, .inr (ci, ((List.range n).map fun j => am_fv G ci o j μ).set k x)) = am_pic G (am_up μ o k v) := by
    rw [am_put_list hkn hx, ← am_el_obj (G := G) hs hci]
    exact am_pic_set (fun o' h b => am_up_ne (by omega) b)
  rw [h9] at hP1 hD1
  exact kk H1 locs1 ⟨hX, hK, hP1, hD1, hS1, hE, hl⟩
theorem e_putI {ci k o : Nat} {z f v : Int} (hf : am_Fp M pc ci k) (ho : z = (o : Int)) (hs : (gS G)[o]? = some (ci, am_N ci)) (ht : am_ct ci k = 0) (hty : am_cty ci k = .int) (hk : f = (k : Int)) (kk : Ev G M (pc + 3) ls st (am_up μ z f v) r μ') : Ev G M pc ls ((0, v) :: (2, z) :: st) μ r μ' := by
  subst ho; subst hk
  intro p e s m args below meth c H locs lsA hI
  rw [List.map_cons, List.map_cons, am_ref_pos (by omega)]
  exact am_putf (v := v) hf hs rfl (by unfold am_fv; rw [ht]; simp [am_up, am_c]) (by rw [hty]; rfl) (by rw [hty]; rfl) hI (fun H1 locs1 hI1 => kk p e s m args below meth c H1 locs1 lsA hI1)
theorem e_putZ {ci k o : Nat} {z f v : Int} (hf : am_Fp M pc ci k) (ho : z = (o : Int)) (hs : (gS G)[o]? = some (ci, am_N ci)) (ht : am_ct ci k = 1) (hty : am_cty ci k = .boolean) (hk : f = (k : Int)) (hv : v = 0 ∨ v = 1) (kk : Ev G M (pc + 3) ls st (am_up μ z f v) r μ') : Ev G M pc ls ((0, v) :: (2, z) :: st) μ r μ' := by
  subst ho; subst hk
  intro p e s m args below meth c H locs lsA hI
  rw [List.map_cons, List.map_cons, am_ref_pos (by omega)]
  exact am_putf (v := v) hf hs rfl (by unfold am_fv; rw [ht]; simp [am_up, am_c]) (by rw [hty]; rcases hv with rfl | rfl <;> rfl) (by rw [hty]; rcases hv with rfl | rfl <;> rfl) hI (fun H1 locs1 hI1 => kk p e s m args below meth c H1 locs1 lsA hI1)
theorem e_putD {ci k o : Nat} {z f v : Int} {C : String} (hf : am_Fp M pc ci k) (ho : z = (o : Int)) (hs : (gS G)[o]? = some (ci, am_N ci)) (ht : am_ct ci k = 3) (hty : am_cty ci k = .object C) (hk : f = (k : Int)) (hv : 0 ≤ v) (kk : Ev G M (pc + 3) ls st (am_up μ z f v) r μ') : Ev G M pc ls ((2, v) :: (2, z) :: st) μ r μ' := by
  subst ho; subst hk
  intro p e s m args below meth c H locs lsA hI
  rw [List.map_cons, List.map_cons, am_ref_pos (o := (o : Int)) (by omega)]
  exact am_putf (v := v) hf hs rfl (by unfold am_fv; rw [ht]; simp [am_up, am_c]) (by rw [hty, am_ref_pos hv]; rfl) (by rw [hty, am_ref_pos hv]; rfl) hI (fun H1 locs1 hI1 => kk p e s m args below meth c H1 locs1 lsA hI1)
-- rows of numbers
theorem am_clamp {i : Int} {n : Nat} (h0 : 0 ≤ i) (h1 : i < n) (hn : n < 2147483648) : vp_in (Int32.ofInt i) n ∧ ((Int32.ofInt i).toNatClampNeg : Int) = i := by
  have hr : R32 i := ⟨by omega, by omega⟩
  have e1 : (Int32.ofInt i).toNatClampNeg = i.toNat := by
    show (Int32.ofInt i).toInt.toNat = _
    rw [hr.eq]
  refine ⟨?_, by rw [e1]; omega⟩
  rintro (h | h)
  · rw [am_0, am_lt hr R32.zero] at h
    omega
  · rw [e1] at h
    omega
theorem e_iald {o n : Nat} {z i : Int} (hd : decode M.2.1 pc = .ok (.iaload, 1)) (ho : z = (o : Int)) (hs : (gS G)[o]? = some (20, n)) (hn : n < 2147483648) (h0 : 0 ≤ i) (h1 : i < n) (kk : Ev G M (pc + 1) ls ((0, μ z i) :: st) μ r μ') : Ev G M pc ls ((0, i) :: (2, z) :: st) μ r μ' := by
  subst ho
  intro p e s m args below meth c H locs lsA hI
  obtain ⟨hi, hj⟩ := am_clamp h0 h1 hn
  rw [List.map_cons, List.map_cons, am_ref_pos (by omega)]
  refine va_iald hI.1.1 hI.1.2.1 hI.2.1 hI.2.2.1 o 0 (am_pic_at hs (am_el_row hs (by decide))) rfl hi hd ?_
  rw [hj]
  exact kk p e s m args below meth c H locs lsA hI
theorem e_zald {o n : Nat} {z i : Int} (hd : decode M.2.1 pc = .ok (.baload, 1)) (ho : z = (o : Int)) (hs : (gS G)[o]? = some (21, n)) (hn : n < 2147483648) (h0 : 0 ≤ i) (h1 : i < n) (kk : Ev G M (pc + 1) ls ((0, μ z i) :: st) μ r μ') : Ev G M pc ls ((0, i) :: (2, z) :: st) μ r μ' := by
  subst ho
  intro p e s m args below meth c H locs lsA hI
  obtain ⟨hi, hj⟩ := am_clamp h0 h1 hn
  rw [List.map_cons, List.map_cons, am_ref_pos (by omega)]
  refine va_zald hI.1.1 hI.1.2.1 hI.2.1 hI.2.2.1 o 1 (am_pic_at hs (am_el_row hs (by decide))) rfl hi hd ?_
  rw [hj]
  exact kk p e s m args below meth c H locs lsA hI
theorem e_bald {o n : Nat} {z i : Int} (hd : decode M.2.1 pc = .ok (.baload, 1)) (ho : z = (o : Int)) (hs : (gS G)[o]? = some (22, n)) (hn : n < 2147483648) (h0 : 0 ≤ i) (h1 : i < n) (kk : Ev G M (pc + 1) ls ((0, μ z i) :: st) μ r μ') : Ev G M pc ls ((0, i) :: (2, z) :: st) μ r μ' := by
  subst ho
  intro p e s m args below meth c H locs lsA hI
  obtain ⟨hi, hj⟩ := am_clamp h0 h1 hn
  rw [List.map_cons, List.map_cons, am_ref_pos (by omega)]
  refine va_bald hI.1.1 hI.1.2.1 hI.2.1 hI.2.2.1 o 2 (am_pic_at hs (am_el_row hs (by decide))) rfl hi hd ?_
  rw [hj]
  exact kk p e s m args below meth c H locs lsA hI
theorem e_lald {o n : Nat} {z i : Int} (hd : decode M.2.1 pc = .ok (.laload, 1)) (ho : z = (o : Int)) (hs : (gS G)[o]? = some (23, n)) (hn : n < 2147483648) (h0 : 0 ≤ i) (h1 : i < n) (kk : Ev G M (pc + 1) ls ((1, μ z i) :: st) μ r μ') : Ev G M pc ls ((0, i) :: (2, z) :: st) μ r μ' := by
  subst ho
  intro p e s m args below meth c H locs lsA hI
  obtain ⟨hi, hj⟩ := am_clamp h0 h1 hn
  rw [List.map_cons, List.map_cons, am_ref_pos (by omega)]
  refine va_lald hI.1.1 hI.1.2.1 hI.2.1 hI.2.2.1 o 3 (am_pic_at hs (am_el_rowL hs)) rfl hi hd ?_
  rw [hj]
  exact kk p e s m args below meth c H locs lsA hI
theorem am_row_up {μ : Mu} {o : Nat} {i v : Int} {k : Nat} (hk : (k : Int) = i) : upd (fun j => Int32.ofInt (μ o j)) k (Int32.ofInt v) = fun j : Nat => Int32.ofInt (am_up μ o i v o j) := by
  subst hk
  funext j
  unfold upd
  rw [am_up_k]
  by_cases h : j = k
  · simp [h]
  · simp [h, show ¬ (j : Int) = (k : Int) by omega]
theorem am_row_upL {μ : Mu} {o : Nat} {i v : Int} {k : Nat} (hk : (k : Int) = i) : vp_updL (fun j => Int64.ofInt (μ o j)) k (Int64.ofInt v) = fun j : Nat => Int64.ofInt (am_up μ o i v o j) := by
  subst hk
  funext j
  unfold vp_updL
  rw [am_up_k]
  by_cases h : j = k
  · simp [h]
  · simp [h, show ¬ (j : Int) = (k : Int) by omega]
theorem am_row_set {t o n : Nat} {i v : Int} {k : Nat} (hs : (gS G)[o]? = some (t + 20, n)) (ht : t < 3) (hk : (k : Int) = i) : (am_pic G μ).set o (gA G o, .inl (gC G t, n, .inl (upd (fun j => Int32.ofInt (μ o j)) k (Int32.ofInt v)))) = am_pic G (am_up μ o i v) := by
  rw [am_row_up hk, ← am_el_row (G := G) (μ := am_up μ o i v) hs ht]
  exact am_pic_set (fun o' h b => am_up_ne (by omega) b)
theorem am_row_setL {o n : Nat} {i v : Int} {k : Nat} (hs : (gS G)[o]? = some (23, n)) (hk : (k : Int) = i) : (am_pic G μ).set o (gA G o, .inl (gC G 3, n, .inr (.inl (vp_updL (fun j => Int64.ofInt (μ o j)) k (Int64.ofInt v))))) = am_pic G (am_up μ o i v) := by
  rw [am_row_upL hk, ← am_el_rowL (G := G) (μ := am_up μ o i v) hs]
  exact am_pic_set (fun o' h b => am_up_ne (by omega) b)
theorem e_iast {o n : Nat} {z i v : Int} (hd : decode M.2.1 pc = .ok (.iastore, 1)) (ho : z = (o : Int)) (hs : (gS G)[o]? = some (20, n)) (hn : n < 2147483648) (h0 : 0 ≤ i) (h1 : i < n) (kk : Ev G M (pc + 1) ls st (am_up μ z i v) r μ') : Ev G M pc ls ((0, v) :: (0, i) :: (2, z) :: st) μ r μ' := by
  subst ho
  intro p e s m args below meth c H locs lsA hI
  obtain ⟨hi, hj⟩ := am_clamp h0 h1 hn
  rw [List.map_cons, List.map_cons, List.map_cons, am_ref_pos (by omega)]
  refine va_iast hI.1.1 hI.1.2.1 hI.2.1 hI.2.2.1 hI.2.2.2.1 hI.2.2.2.2.1 o 0 (am_pic_at hs (am_el_row hs (by decide))) rfl hi hd (fun H1 locs1 hP1 hD1 hS1 => ?_)
  rw [am_row_set (t := 0) hs (by decide) hj] at hP1 hD1
  exact kk p e s m args below meth c H1 locs1 lsA ⟨hI.1, hI.2.1, hP1, hD1, hS1, hI.2.2.2.2.2⟩
theorem e_last {o n : Nat} {z i v : Int} (hd : decode M.2.1 pc = .ok (.lastore, 1)) (ho : z = (o : Int)) (hs : (gS G)[o]? = some (23, n)) (hn : n < 2147483648) (h0 : 0 ≤ i) (h1 : i < n) (kk : Ev G M (pc + 1) ls st (am_up μ z i v) r μ') : Ev G M pc ls ((1, v) :: (0, i) :: (2, z) :: st) μ r μ' := by
  subst ho
  intro p e s m args below meth c H locs lsA hI
  obtain ⟨hi, hj⟩ := am_clamp h0 h1 hn
  rw [List.map_cons, List.map_cons, List.map_cons, am_ref_pos (by omega)]
  refine va_last hI.1.1 hI.1.2.1 hI.2.1 hI.2.2.1 hI.2.2.2.1 hI.2.2.2.2.1 o 3 (am_pic_at hs (am_el_rowL hs)) rfl hi hd (fun H1 locs1 hP1 hD1 hS1 => ?_)
  rw [am_row_setL hs hj] at hP1 hD1
  exact kk p e s m args below meth c H1 locs1 lsA ⟨hI.1, hI.2.1, hP1, hD1, hS1, hI.2.2.2.2.2⟩
theorem e_zast {o n : Nat} {z i v : Int} (hd : decode M.2.1 pc = .ok (.bastore, 1)) (ho : z = (o : Int)) (hs : (gS G)[o]? = some (21, n)) (hn : n < 2147483648) (h0 : 0 ≤ i) (h1 : i < n) (hv : v = 0 ∨ v = 1) (kk : Ev G M (pc + 1) ls st (am_up μ z i v) r μ') : Ev G M pc ls ((0, v) :: (0, i) :: (2, z) :: st) μ r μ' := by
  subst ho
  intro p e s m args below meth c H locs lsA hI
  obtain ⟨hi, hj⟩ := am_clamp h0 h1 hn
  rw [List.map_cons, List.map_cons, List.map_cons, am_ref_pos (by omega)]
  refine va_zast hI.1.1 hI.1.2.1 hI.2.1 hI.2.2.1 hI.2.2.2.1 hI.2.2.2.2.1 o 1 (am_pic_at hs (am_el_row hs (by decide))) rfl hi hd (fun H1 locs1 hP1 hD1 hS1 => ?_)
  have hnar : vp_nar .boolean (Int32.ofInt v) = Int32.ofInt v := by rcases hv with rfl | rfl <;> decide
  rw [hnar, am_row_set (t := 1) hs (by decide) hj] at hP1 hD1
  exact kk p e s m args below meth c H1 locs1 lsA ⟨hI.1, hI.2.1, hP1, hD1, hS1, hI.2.2.2.2.2⟩
theorem e_bast {o n : Nat} {z i v : Int} (hd : decode M.2.1 pc = .ok (.bastore, 1)) (ho : z = (o : Int)) (hs : (gS G)[o]? = some (22, n)) (hn : n < 2147483648) (h0 : 0 ≤ i) (h1 : i < n) (kk : Ev G M (pc + 1) ls st (am_up μ z i (am_i2b v)) r μ') : Ev G M pc ls ((0, v) :: (0, i) :: (2, z) :: st) μ r μ' := by
  subst ho
  intro p e s m args below meth c H locs lsA hI
  obtain ⟨hi, hj⟩ := am_clamp h0 h1 hn
  rw [List.map_cons, List.map_cons, List.map_cons, am_ref_pos (by omega)]
  refine va_bast hI.1.1 hI.1.2.1 hI.2.1 hI.2.2.1 hI.2.2.2.1 hI.2.2.2.2.1 o 2 (am_pic_at hs (am_el_row hs (by decide))) rfl hi hd (fun H1 locs1 hP1 hD1 hS1 => ?_)
  have hnar : vp_nar .byte (Int32.ofInt v) = Int32.ofInt (am_i2b v) := by rw [am_i2b, Int32.ofInt_toInt]; rfl
  rw [hnar, am_row_set (t := 2) hs (by decide) hj] at hP1 hD1
  exact kk p e s m args below meth c H1 locs1 lsA ⟨hI.1, hI.2.1, hP1, hD1, hS1, hI.2.2.2.2.2⟩
theorem e_alen {o n t : Nat} {z f : Int} (hd : decode M.2.1 pc = .ok (.arraylength, 1)) (ho : z = (o : Int)) (hs : (gS G)[o]? = some (t + 20, n)) (ht : t < 3) (hf : f = (n : Int)) (kk : Ev G M (pc + 1) ls ((0, f) :: st) μ r μ') : Ev G M pc ls ((2, z) :: st) μ r μ' := by
  subst ho; subst hf
  intro p e s m args below meth c H locs lsA hI
  rw [List.map_cons, am_ref_pos (by omega)]
  obtain ⟨ty, hty⟩ : ∃ ty, (am_tys G)[t]? = some (gC G t, ty) := by
    match t, ht with
    | 0, _ => exact ⟨_, rfl⟩
    | 1, _ => exact ⟨_, rfl⟩
    | 2, _ => exact ⟨_, rfl⟩
  exact va_alen (v := Int32.ofInt n) hI.1.1 hI.1.2.1 hI.2.1 hI.2.2.1 o t (am_pic_at hs (am_el_row hs ht)) hty (by rw [Int32.ofInt_eq_ofNat]) hd (kk p e s m args below meth c H locs lsA hI)
theorem e_alenL {o n : Nat} {z f : Int} (hd : decode M.2.1 pc = .ok (.arraylength, 1)) (ho : z = (o : Int)) (hs : (gS G)[o]? = some (23, n)) (hf : f = (n : Int)) (kk : Ev G M (pc + 1) ls ((0, f) :: st) μ r μ') : Ev G M pc ls ((2, z) :: st) μ r μ' := by
  subst ho; subst hf
  intro p e s m args below meth c H locs lsA hI
  rw [List.map_cons, am_ref_pos (by omega)]
  exact va_alen (v := Int32.ofInt n) hI.1.1 hI.1.2.1 hI.2.1 hI.2.2.1 o 3 (am_pic_at hs (am_el_rowL hs)) (ty := .long) rfl (by rw [Int32.ofInt_eq_ofNat]) hd (kk p e s m args below meth c H locs lsA hI)
end EvHeap
