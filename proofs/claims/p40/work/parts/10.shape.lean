/-! ===== The world of the law: the class's objects (0 to 44) ===== -/
abbrev AX : Type := va_G × (Nat → ClassId) × (Nat → Nat) × Launch × (Nat → Nat) × (Nat → Int)
def am_SH : List (Nat × Nat) := [(7, 9), (5, 2), (20, 900), (1, 3), (20, 20), (20, 20), (0, 18), (20, 64), (20, 64), (20, 64), (20, 64), (20, 64), (23, 595), (21, 25), (20, 64), (6, 4), (4, 3), (20, 3993), (20, 121), (20, 64), (2, 17), (20, 12), (20, 4), (20, 64), (21, 64), (20, 64), (20, 64), (20, 64), (20, 64), (20, 32), (20, 32), (2, 17), (20, 12), (20, 4), (20, 64), (21, 64), (20, 64), (20, 64), (20, 64), (20, 64), (20, 32), (20, 32), (3, 10), (21, 3), (21, 4)]
def am_RFl : List (List Int) := [[1, 42, 3, 6, 15, 16, 19], [2], [], [4, 5], [], [], [-1, -1, -1, -1, -1, 7, 8, 9, 10, 11, 12, -1, 13, 14], [], [], [], [], [], [], [], [], [], [-1, 17, 18], [], [], [], [-1, -1, -1, -1, -1, 21, 22, -1, 23, 24, 25, 26, 27, 28, -1, 29, 30], [], [], [], [], [], [], [], [], [], [], [-1, -1, -1, -1, -1, 32, 33, -1, 34, 35, 36, 37, 38, 39, -1, 40, 41], [], [], [], [], [], [], [], [], [], [], [-1, -1, 2, -1, -1, -1, -1, -1, 43, 44], [], []]
def am_RF (o k : Nat) : Int := (am_RFl.getD o []).getD k (-1)
def GG (X : AX) : AG := (X.1, X.2.1, X.2.2.1, X.2.2.2.1, am_SH, am_RF, X.2.2.2.2)
theorem R32.in {z : Int} (h : -2147483648 ≤ z ∧ z ≤ 2147483647) : R32 z := h
theorem R64.in {z : Int} (h : -9223372036854775808 ≤ z ∧ z ≤ 9223372036854775807) : R64 z := h
def am_b (P : Prop) [Decidable P] : Int := if P then 1 else 0
theorem am_b0 {P : Prop} [Decidable P] (h : am_b P = 0) : ¬ P := by
  intro hp
  rw [am_b, if_pos hp] at h
  cases h
theorem am_b1 {P : Prop} [Decidable P] (h : ¬ am_b P = 0) : P := by
  by_cases hp : P
  · exact hp
  · exact absurd (by rw [am_b, if_neg hp]) h
theorem am_b_t {P : Prop} [Decidable P] (h : P) : (1 : Int) = am_b P := by unfold am_b; rw [if_pos h]
theorem am_b_f {P : Prop} [Decidable P] (h : ¬ P) : (0 : Int) = am_b P := by unfold am_b; rw [if_neg h]
theorem am_b_01 (P : Prop) [Decidable P] : am_b P = 0 ∨ am_b P = 1 := by unfold am_b; split <;> simp
theorem am_b_r (P : Prop) [Decidable P] : 0 ≤ am_b P ∧ am_b P ≤ 1 := by unfold am_b; split <;> simp
theorem am_b_iff {P Q : Prop} [Decidable P] [Decidable Q] (h : P ↔ Q) : am_b P = am_b Q := by unfold am_b; simp only [h]
section EvMore
variable {G : AG} {M : AMeth} {pc : Nat} {ls st : List AV} {μ μ1 μ2 μ' : Mu} {r : Option AV}
theorem Ev.toI {a b : Int} (h : Ev G M pc ls st μ (some (0, a)) μ1) (hr : a = b) (hm : μ1 = μ2) : Ev G M pc ls st μ (some (0, b)) μ2 := by subst hr; subst hm; exact h
theorem Ev.toL {a b : Int} (h : Ev G M pc ls st μ (some (1, a)) μ1) (hr : a = b) (hm : μ1 = μ2) : Ev G M pc ls st μ (some (1, b)) μ2 := by subst hr; subst hm; exact h
theorem Ev.toV (h : Ev G M pc ls st μ none μ1) (hm : μ1 = μ2) : Ev G M pc ls st μ none μ2 := by subst hm; exact h
/-- the same frame, its parts written otherwise -/
theorem Ev.cg {ls' st' : List AV} {μ0 : Mu} (h : Ev G M pc ls' st' μ0 r μ') (h1 : μ = μ0) (h2 : ls = ls') (h3 : st = st') : Ev G M pc ls st μ r μ' := by subst h1; subst h2; subst h3; exact h
theorem e_getIx {ci k o : Nat} {z f x : Int} (hf : am_Fg M pc ci k) (ho : z = (o : Int)) (hs : (gS G)[o]? = some (ci, am_N ci)) (ht : am_ct ci k < 2) (hk : f = (k : Int)) (hx : μ z f = x) (kk : Ev G M (pc + 3) ls ((0, x) :: st) μ r μ') : Ev G M pc ls ((2, z) :: st) μ r μ' := by subst hx; exact e_getI hf ho hs ht hk kk
theorem e_getDx {ci k o : Nat} {z f x : Int} (hf : am_Fg M pc ci k) (ho : z = (o : Int)) (hs : (gS G)[o]? = some (ci, am_N ci)) (ht : am_ct ci k = 3) (hk : f = (k : Int)) (hx : μ z f = x) (kk : Ev G M (pc + 3) ls ((2, x) :: st) μ r μ') : Ev G M pc ls ((2, z) :: st) μ r μ' := by subst hx; exact e_getD hf ho hs ht hk kk
theorem e_ialdx {o n : Nat} {z i x : Int} (hd : decode M.2.1 pc = .ok (.iaload, 1)) (ho : z = (o : Int)) (hs : (gS G)[o]? = some (20, n)) (hn : n < 2147483648) (h0 : 0 ≤ i ∧ i < n) (hx : μ z i = x) (kk : Ev G M (pc + 1) ls ((0, x) :: st) μ r μ') : Ev G M pc ls ((0, i) :: (2, z) :: st) μ r μ' := by subst hx; exact e_iald hd ho hs hn h0.1 h0.2 kk
theorem e_zaldx {o n : Nat} {z i x : Int} (hd : decode M.2.1 pc = .ok (.baload, 1)) (ho : z = (o : Int)) (hs : (gS G)[o]? = some (21, n)) (hn : n < 2147483648) (h0 : 0 ≤ i ∧ i < n) (hx : μ z i = x) (kk : Ev G M (pc + 1) ls ((0, x) :: st) μ r μ') : Ev G M pc ls ((0, i) :: (2, z) :: st) μ r μ' := by subst hx; exact e_zald hd ho hs hn h0.1 h0.2 kk
theorem e_baldx {o n : Nat} {z i x : Int} (hd : decode M.2.1 pc = .ok (.baload, 1)) (ho : z = (o : Int)) (hs : (gS G)[o]? = some (22, n)) (hn : n < 2147483648) (h0 : 0 ≤ i ∧ i < n) (hx : μ z i = x) (kk : Ev G M (pc + 1) ls ((0, x) :: st) μ r μ') : Ev G M pc ls ((0, i) :: (2, z) :: st) μ r μ' := by subst hx; exact e_bald hd ho hs hn h0.1 h0.2 kk
theorem e_laldx {o n : Nat} {z i x : Int} (hd : decode M.2.1 pc = .ok (.laload, 1)) (ho : z = (o : Int)) (hs : (gS G)[o]? = some (23, n)) (hn : n < 2147483648) (h0 : 0 ≤ i ∧ i < n) (hx : μ z i = x) (kk : Ev G M (pc + 1) ls ((1, x) :: st) μ r μ') : Ev G M pc ls ((0, i) :: (2, z) :: st) μ r μ' := by subst hx; exact e_lald hd ho hs hn h0.1 h0.2 kk
theorem e_idivP {a b : Int} (hd : decode M.2.1 pc = .ok (.idiv, 1)) (h : (0 ≤ a ∧ a ≤ 2147483647) ∧ (0 < b ∧ b ≤ 2147483647)) (kk : Ev G M (pc + 1) ls ((0, a / b) :: st) μ r μ') : Ev G M pc ls ((0, b) :: (0, a) :: st) μ r μ' := by
  rw [← Int.tdiv_eq_ediv_of_nonneg h.1.1] at kk
  exact e_idiv hd ⟨by omega, by omega⟩ ⟨by omega, by omega⟩ (by omega) kk
theorem e_iremP {a b : Int} (hd : decode M.2.1 pc = .ok (.irem, 1)) (h : (0 ≤ a ∧ a ≤ 2147483647) ∧ (0 < b ∧ b ≤ 2147483647)) (kk : Ev G M (pc + 1) ls ((0, a % b) :: st) μ r μ') : Ev G M pc ls ((0, b) :: (0, a) :: st) μ r μ' := by
  rw [← Int.tmod_eq_emod_of_nonneg h.1.1] at kk
  exact e_irem hd ⟨by omega, by omega⟩ ⟨by omega, by omega⟩ (by omega) kk
def am_ixor (a b : Int) : Int := (Int32.ofInt a ^^^ Int32.ofInt b).toInt
theorem e_ixor {a b : Int} (hd : decode M.2.1 pc = .ok (.ixor, 1)) (kk : Ev G M (pc + 1) ls ((0, am_ixor a b) :: st) μ r μ') : Ev G M pc ls ((0, b) :: (0, a) :: st) μ r μ' :=
  Ev.stk (fun _ _ _ _ _ _ _ _ _ _ _ _ hx hb hI k => lv_ixor hx hb hd (by have h9 : Int32.ofInt (am_ixor a b) = Int32.ofInt a ^^^ Int32.ofInt b := Int32.ofInt_toInt _; rw [← h9]; exact k)) kk
/-- the script's number at a place -/
def sx (G : AG) (k : Int) : Int := (Int32.ofInt (gX G k.toNat)).toInt
theorem e_slen (hd : decode M.2.1 pc = .ok (.arraylength, 1)) (kk : Ev G M (pc + 1) ls ((0, (gK G 14 : Int)) :: st) μ r μ') : Ev G M pc ls ((3, 13) :: st) μ r μ' := by
  intro p e s m args below meth c H locs lsA hI
  obtain ⟨hX, hbl, hbA, hL, -⟩ := hI.2.2.2.2.2.1.1.2.2.2
  refine va_slen hI.1.1 hI.1.2.1 hX hbl hbA hI.2.2.2.2.1 hd ?_
  have h9 := kk p e s m args below meth c H locs lsA hI
  rw [List.map_cons, show am_c G (0, (gK G 14 : Int)) = .int (Int32.ofNat (gK G 14)) from congrArg Value.int (Int32.ofInt_eq_ofNat ..)] at h9
  exact h9
theorem e_sld {i : Int} (hd : decode M.2.1 pc = .ok (.iaload, 1)) (hi : 0 ≤ i ∧ i < (gK G 14 : Int)) (kk : Ev G M (pc + 1) ls ((0, sx G i) :: st) μ r μ') : Ev G M pc ls ((0, i) :: (3, 13) :: st) μ r μ' := by
  intro p e s m args below meth c H locs lsA hI
  obtain ⟨hX, hbl, hbA, hL, -⟩ := hI.2.2.2.2.2.1.1.2.2.2
  obtain ⟨h1, h2⟩ := am_clamp (i := i) (n := gK G 14) hi.1 hi.2 hL
  have h3 : (Int32.ofInt i).toNatClampNeg = i.toNat := by omega
  refine va_sld hI.1.1 hI.1.2.1 hX hbl hbA hI.2.2.2.2.1 h1 hd ?_
  rw [h3]
  have h9 := kk p e s m args below meth c H locs lsA hI
  rw [List.map_cons, show am_c G (0, sx G i) = .int (Int32.ofInt (gX G i.toNat)) from congrArg Value.int (Int32.ofInt_toInt _)] at h9
  exact h9
theorem am_toInt_r (x : Int32) : R32 x.toInt := ⟨by have := Int32.le_toInt x; omega, by have := Int32.toInt_lt x; omega⟩
end EvMore
