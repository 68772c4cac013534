/-! ===== The law's text, read whole: one group of all notes ===== -/
section rd2
variable {b : Int → Int} {n a : Int} {σ σ' : Mu} {G : AG} {l l' : List Int}
def lnsL (G : AG) : Nat → List Int
  | 0 => LM ++ LK (lkn G) ++ LWd 8 (lwd G 1) ++ LWd 16 (lwd G 2) ++ LWd 32 (lwd G 3)
  | k + 1 => lnsL G k ++ LE (knum (lkd G k)) (lpl G k)
theorem ltx_e : ltx 0 = [32] ∧ ltx 1 = [109, 101, 116, 114, 101, 32, 49, 32, 50, 59, 107, 110, 101, 101, 32] ∧ ltx 2 = [59, 119, 105, 100, 101, 32, 56, 32] ∧ ltx 3 = [59, 119, 105, 100, 101, 32, 49, 54, 32] ∧ ltx 4 = [59, 119, 105, 100, 101, 32, 51, 50, 32] ∧ ltx 5 = [59] ∧ ltx 6 = [110, 111, 116, 101, 32] ∧ ltx 7 = [45, 32] ∧ ltx 8 = [] := by decide +kernel
theorem dgl_e : dgl 1 = [49] ∧ dgl 2 = [50] ∧ dgl 8 = [56] ∧ dgl 16 = [49, 54] ∧ dgl 32 = [51, 50] := by decide +kernel
theorem txL_lns (G : AG) : ∀ k : Nat, txL G k = lnsL G k := by
  obtain ⟨t0, t1, t2, t3, t4, t5, t6, t7, t8⟩ := ltx_e
  obtain ⟨d1, d2, d8, d16, d32⟩ := dgl_e
  intro k
  induction k with
  | zero =>
    show txH G = LM ++ LK (lkn G) ++ LWd 8 (lwd G 1) ++ LWd 16 (lwd G 2) ++ LWd 32 (lwd G 3)
    unfold txH LM LK LWd
    rw [t1, t2, t3, t4, t5, d1, d2, d8, d16, d32]
    simp only [List.append_assoc, List.cons_append, List.nil_append]
  | succ k ih =>
    show [] ++ txL G k ++ ltx 6 ++ dgl (knum (lkd G k)) ++ ltx 0 ++ ltx (if lpl G k < 0 then 7 else 8) ++ dgl (if 0 ≤ lpl G k then lpl G k else -lpl G k) ++ ltx 5 = lnsL G k ++ LE (knum (lkd G k)) (lpl G k)
    have e : ltx (if lpl G k < 0 then 7 else 8) = if lpl G k < 0 then [45, 32] else [] := by
      split
      · exact t7
      · exact t8
    unfold LE
    rw [ih, e, t6, t0, t5]
    simp only [List.append_assoc, List.cons_append, List.nil_append]
theorem bm_r0 (h : bm b 0 (l ++ l')) : bm b (l.length : Int) l' := by
  have := bm_r h
  rw [Int.zero_add] at this
  exact this
theorem rd_go1 {m : Nat} {a' : Int} (h : lnF b n σ a = (0, 0, σ', a') ∧ sk b n a = a) (ha : a < n) : rdN b n (m + 1) σ a = rdN b n m (am_up σ' 0 1 (σ' 0 1 + 1)) a' := by
  rw [rdN_go (by rw [h.2]; exact ha) (by rw [h.1]), h.1]
/-- the state behind the first lines and i notes -/
def NS (G : AG) (σ : Mu) (i : Int) : Prop := (σ 0 0 = i ∧ σ 0 1 = 5 + i) ∧ (σ 0 2 = 1 ∧ σ 0 3 = 2 ∧ σ 0 4 = lkn G ∧ σ 0 5 = 0) ∧ (σ 7 1 = lwd G 1 ∧ σ 7 2 = lwd G 2 ∧ σ 7 3 = lwd G 3) ∧ (∀ j : Int, 0 ≤ j → j < i → σ 1 j = knum (lkd G j) ∧ σ 2 j = 1 ∧ σ 3 j = lpl G j) ∧ tS σ = ltm G i
theorem lok_kn {k : Int} (h : 1 ≤ k ∧ k ≤ 3) : lok (knum k) = lng k ∧ bok (knum k) = k ∧ (knum k = 8 ∨ knum k = 16 ∨ knum k = 32) := by
  have : k = 1 ∨ k = 2 ∨ k = 3 := by omega
  rcases this with rfl | rfl | rfl <;> decide
theorem ltm_mono (G : AG) : ∀ (d : Nat) (i : Int), 0 ≤ i → 0 ≤ ltm G i ∧ ltm G i + d ≤ ltm G (i + d) := by
  have h0 : ∀ k : Nat, 0 ≤ ltm G k := by
    intro k
    induction k with
    | zero => exact Int.le_refl _
    | succ k ih =>
      rw [show ((k + 1 : Nat) : Int) = (k : Int) + 1 by omega, ltm_s (by omega)]
      have := lng_r (lkd G k)
      omega
  intro d
  induction d with
  | zero =>
    intro i hi
    have := h0 i.toNat
    rw [show ((i.toNat : Nat) : Int) = i by omega] at this
    rw [show i + ((0 : Nat) : Int) = i by omega]
    omega
  | succ d ih =>
    intro i hi
    have h1 := ih i hi
    rw [show i + ((d + 1 : Nat) : Int) = (i + d) + 1 by omega, ltm_s (by omega)]
    have := lng_r (lkd G (i + d))
    omega
theorem ltm_b (G : AG) {i : Int} (h : 0 ≤ i ∧ i < lmy G) : 0 ≤ ltm G i ∧ ltm G i + lng (lkd G i) ≤ 16 := by
  have h1 := lmy_r G
  have h2 := (ltm_mono G 0 i h.1).1
  have h3 := (ltm_mono G (lmy G - (i + 1)).toNat (i + 1) (by omega)).2
  rw [show i + 1 + (((lmy G - (i + 1)).toNat : Nat) : Int) = lmy G by omega, ltm_s h.1] at h3
  omega
theorem NS_step {i : Int} (h : NS G σ i) (hi : 0 ≤ i) : NS G (am_up (addS σ 1 (knum (lkd G i)) (lpl G i)) 0 1 ((addS σ 1 (knum (lkd G i)) (lpl G i)) 0 1 + 1)) (i + 1) := by
  obtain ⟨⟨h0, h1⟩, ⟨h2, h3, h4, h5⟩, ⟨w1, w2, w3⟩, hr, ht⟩ := h
  obtain ⟨f6, f0, fk, r1, r2, r3, r4, r5⟩ := @addS_f σ 1 (knum (lkd G i)) (lpl G i)
  have hk := lok_kn (lkd_r G i)
  generalize addS σ 1 (knum (lkd G i)) (lpl G i) = τ at f6 f0 fk r1 r2 r3 r4 r5 ⊢
  refine ⟨⟨by rw [am_up_nk (by decide), f0, h0], by rw [am_up_at, fk 1 (by decide), h1]; omega⟩, ⟨by rw [am_up_nk (by decide), fk 2 (by decide), h2], by rw [am_up_nk (by decide), fk 3 (by decide), h3], by rw [am_up_nk (by decide), fk 4 (by decide), h4], by rw [am_up_nk (by decide), fk 5 (by decide), h5]⟩,
    ⟨by rw [am_up_o (by decide), f6 7 (by decide), w1], by rw [am_up_o (by decide), f6 7 (by decide), w2], by rw [am_up_o (by decide), f6 7 (by decide), w3]⟩, fun j j0 j1 => ?_, ?_⟩
  · rw [am_up_o (by decide), am_up_o (by decide), am_up_o (by decide), r1, r2, r3, h0]
    by_cases hj : j = i
    · subst hj; rw [if_pos rfl, if_pos rfl, if_pos rfl]; exact ⟨rfl, rfl, rfl⟩
    · rw [if_neg hj, if_neg hj, if_neg hj]; exact hr j j0 (by omega)
  · unfold tS
    rw [am_up_nk (by decide), f0, h0, if_neg (by omega), am_up_o (by decide), am_up_o (by decide), show i + 1 - 1 = i by omega, r4, r1, h0, if_pos rfl, if_pos rfl, ht, hk.1, ltm_s hi]
theorem lns_pre (G : AG) : ∀ (d k : Nat), ∃ r, lnsL G (k + d) = lnsL G k ++ r := by
  intro d
  induction d with
  | zero => intro k; exact ⟨[], by simp⟩
  | succ d ih =>
    intro k
    obtain ⟨r, hr⟩ := ih k
    exact ⟨r ++ LE (knum (lkd G ((k + d : Nat) : Int))) (lpl G ((k + d : Nat) : Int)), by show lnsL G (k + d) ++ _ = _; rw [hr, List.append_assoc]; rfl⟩
theorem rd_notes (G : AG) {m : Nat} (hm : (m : Int) = lmy G) (hb : bm b 0 (lnsL G m)) (hn : n = ((lnsL G m).length : Int)) : ∀ (f i : Nat), m - i = f → i ≤ m → ∀ (fu : Nat) (σ : Mu), f ≤ fu → NS G σ i → ∃ σ', rdN b n fu σ ((lnsL G i).length : Int) = (0, 0, σ', n) ∧ NS G σ' m := by
  have hmy := lmy_r G
  intro f
  induction f with
  | zero =>
    intro i hf hi fu σ _ h
    have : i = m := by omega
    subst this
    refine ⟨σ, ?_, h⟩
    rw [← hn, rdN_end (Or.inr (by rw [sk_end (Int.le_refl _)]; exact Int.le_refl _))]
  | succ f ih =>
    intro i hf hi fu σ hfu h
    obtain ⟨fu', rfl⟩ : ∃ fu', fu = fu' + 1 := ⟨fu - 1, by omega⟩
    obtain ⟨r, hr⟩ := lns_pre G (m - (i + 1)) (i + 1)
    rw [show i + 1 + (m - (i + 1)) = m by omega] at hr
    have hlen : (lnsL G m).length = (lnsL G (i + 1)).length + r.length := by rw [hr, List.length_append]
    have hlen2 : (lnsL G (i + 1)).length = (lnsL G i).length + (LE (knum (lkd G i)) (lpl G i)).length := List.length_append
    have hbi : bm b ((lnsL G i).length : Int) (LE (knum (lkd G i)) (lpl G i)) := by
      rw [hr] at hb
      exact bm_r0 (bm_l hb)
    have hL : 1 ≤ (LE (knum (lkd G i)) (lpl G i)).length := by unfold LE; simp only [List.length_append, List.length_cons]; omega
    have hk := lok_kn (lkd_r G i)
    have hp := lpl_r G i
    have ht := ltm_b G (i := i) (by omega)
    have h1 := lng_r (lkd G i)
    have hms : mlS σ = 16 := by unfold mlS; rw [h.2.1.1, h.2.1.2.1]; rfl
    have hl := ln_ele (σ := σ) (n := n) hbi hk.2.2 (by omega) (by omega) ⟨by rw [h.1.1]; omega, by rw [hms, h.2.2.2.2, hk.1]; omega⟩
    rw [rd_go1 hl (by omega), show ((lnsL G i).length : Int) + ((LE (knum (lkd G i)) (lpl G i)).length : Int) = ((lnsL G (i + 1)).length : Int) by omega]
    exact ih (i + 1) (by omega) (by omega) fu' _ (by omega) (NS_step h (by omega))
/-- the states of the first lines -/
def lnU (σ : Mu) : Mu := am_up σ 0 1 (σ 0 1 + 1)
def Z1 : Mu := lnU (metS S0 1 2)
def Z2 (v : Int) : Mu := lnU (knS Z1 v)
def Z3 (v w : Int) : Mu := lnU (wdS (Z2 v) 1 w)
def Z4 (v w w2 : Int) : Mu := lnU (wdS (Z3 v w) 2 w2)
def Z5 (v w w2 w3 : Int) : Mu := lnU (wdS (Z4 v w w2) 3 w3)
theorem Z_f {v w w2 w3 : Int} : (Z1 0 0 = 0 ∧ Z1 0 7 = 0) ∧ (Z2 v 0 0 = 0 ∧ Z2 v 8 1 = 0) ∧ (Z3 v w 0 0 = 0 ∧ Z3 v w 8 2 = 0) ∧ (Z4 v w w2 0 0 = 0 ∧ Z4 v w w2 8 3 = 0) := by
  refine ⟨⟨?_, ?_⟩, ⟨?_, ?_⟩, ⟨?_, ?_⟩, ⟨?_, ?_⟩⟩ <;> simp [Z1, Z2, Z3, Z4, lnU, metS, knS, wdS, am_up, S0]
theorem Z_ns (G : AG) : NS G (Z5 (lkn G) (lwd G 1) (lwd G 2) (lwd G 3)) 0 := by
  refine ⟨⟨?_, ?_⟩, ⟨?_, ?_, ?_, ?_⟩, ⟨?_, ?_, ?_⟩, fun j j0 j1 => absurd j1 (by omega), ?_⟩
  case refine_10 =>
    unfold tS
    have : Z5 (lkn G) (lwd G 1) (lwd G 2) (lwd G 3) 0 0 = 0 := by simp [Z1, Z2, Z3, Z4, Z5, lnU, metS, knS, wdS, am_up, S0]
    rw [if_pos this]
    rfl
  all_goals simp [Z1, Z2, Z3, Z4, Z5, lnU, metS, knS, wdS, am_up, S0]
theorem rd_text (G : AG) {m : Nat} (hm : (m : Int) = lmy G) (hb : bm b 0 (lnsL G m)) (hn : n = ((lnsL G m).length : Int)) : ∃ σ', rdN b n n.toNat S0 0 = (0, 0, σ', n) ∧ NS G σ' m := by
  have hkn := lkn_r G
  have h1 := lwd_r G 1
  have h2 := lwd_r G 2
  have h3 := lwd_r G 3
  have hmy := lmy_r G
  obtain ⟨r, hr⟩ := lns_pre G m 0
  rw [Nat.zero_add] at hr
  have hL := txL_l G m
  rw [txL_lns] at hL
  obtain ⟨fu, hfu⟩ : ∃ fu, n.toNat = fu + 1 + 1 + 1 + 1 + 1 := ⟨n.toNat - 5, by omega⟩
  have hlen : (lnsL G m).length = (LM ++ LK (lkn G) ++ LWd 8 (lwd G 1) ++ LWd 16 (lwd G 2) ++ LWd 32 (lwd G 3)).length + r.length := by rw [hr, List.length_append]; rfl
  have hb0 : bm b 0 (LM ++ LK (lkn G) ++ LWd 8 (lwd G 1) ++ LWd 16 (lwd G 2) ++ LWd 32 (lwd G 3)) := by rw [hr] at hb; exact bm_l hb
  have a5 : (LM ++ LK (lkn G) ++ LWd 8 (lwd G 1) ++ LWd 16 (lwd G 2) ++ LWd 32 (lwd G 3)).length = (LM ++ LK (lkn G) ++ LWd 8 (lwd G 1) ++ LWd 16 (lwd G 2)).length + (LWd 32 (lwd G 3)).length := List.length_append
  have a4 : (LM ++ LK (lkn G) ++ LWd 8 (lwd G 1) ++ LWd 16 (lwd G 2)).length = (LM ++ LK (lkn G) ++ LWd 8 (lwd G 1)).length + (LWd 16 (lwd G 2)).length := List.length_append
  have a3 : (LM ++ LK (lkn G) ++ LWd 8 (lwd G 1)).length = (LM ++ LK (lkn G)).length + (LWd 8 (lwd G 1)).length := List.length_append
  have a2 : (LM ++ LK (lkn G)).length = LM.length + (LK (lkn G)).length := List.length_append
  have a1 : LM.length = 10 := by decide +kernel
  have c : ∀ k v : Int, 1 ≤ (LWd k v).length := fun k v => by unfold LWd; simp only [List.length_append, List.length_cons]; omega
  have c5 := c 32 (lwd G 3)
  have c4 := c 16 (lwd G 2)
  have c3 := c 8 (lwd G 1)
  have c2 : 1 ≤ (LK (lkn G)).length := by unfold LK; simp only [List.length_append, List.length_cons]; omega
  obtain ⟨z1, z2, z3, z4⟩ := @Z_f (lkn G) (lwd G 1) (lwd G 2) (lwd G 3)
  have s1 := ln_met (n := n) (σ := S0) (bm_l (bm_l (bm_l (bm_l hb0)))) (by omega) ⟨rfl, rfl, rfl⟩
  have s2 := ln_kne (n := n) (σ := Z1) (bm_r0 (bm_l (bm_l (bm_l hb0)))) hkn (by omega) z1
  have s3 := ln_wid (n := n) (σ := Z2 (lkn G)) (bm_r0 (bm_l (bm_l hb0))) (Or.inl rfl) (by omega) (by omega) z2
  have s4 := ln_wid (n := n) (σ := Z3 (lkn G) (lwd G 1)) (bm_r0 (bm_l hb0)) (Or.inr (Or.inl rfl)) (by omega) (by omega) z3
  have s5 := ln_wid (n := n) (σ := Z4 (lkn G) (lwd G 1) (lwd G 2)) (bm_r0 hb0) (Or.inr (Or.inr rfl)) (by omega) (by omega) z4
  obtain ⟨σ', e, hN⟩ := rd_notes G hm hb hn m 0 (by omega) (by omega) fu (Z5 (lkn G) (lwd G 1) (lwd G 2) (lwd G 3)) (by omega) (Z_ns G)
  refine ⟨σ', ?_, hN⟩
  rw [hfu, rd_go1 s1 (by omega), show (0 : Int) + 10 = (LM.length : Int) by omega]
  show rdN b n (fu + 1 + 1 + 1 + 1) Z1 _ = _
  rw [rd_go1 s2 (by omega), show (LM.length : Int) + ((LK (lkn G)).length : Int) = ((LM ++ LK (lkn G)).length : Int) by omega]
  show rdN b n (fu + 1 + 1 + 1) (Z2 (lkn G)) _ = _
  rw [rd_go1 s3 (by omega), show ((LM ++ LK (lkn G)).length : Int) + ((LWd 8 (lwd G 1)).length : Int) = ((LM ++ LK (lkn G) ++ LWd 8 (lwd G 1)).length : Int) by omega]
  show rdN b n (fu + 1 + 1) (Z3 (lkn G) (lwd G 1)) _ = _
  rw [rd_go1 s4 (by omega), show ((LM ++ LK (lkn G) ++ LWd 8 (lwd G 1)).length : Int) + ((LWd 16 (lwd G 2)).length : Int) = ((LM ++ LK (lkn G) ++ LWd 8 (lwd G 1) ++ LWd 16 (lwd G 2)).length : Int) by omega]
  show rdN b n (fu + 1) (Z4 (lkn G) (lwd G 1) (lwd G 2)) _ = _
  rw [rd_go1 s5 (by omega), show ((LM ++ LK (lkn G) ++ LWd 8 (lwd G 1) ++ LWd 16 (lwd G 2)).length : Int) + ((LWd 32 (lwd G 3)).length : Int) = ((lnsL G 0).length : Int) by show _ = (((LM ++ LK (lkn G) ++ LWd 8 (lwd G 1) ++ LWd 16 (lwd G 2) ++ LWd 32 (lwd G 3)).length : Nat) : Int); omega]
  exact e
theorem rn_full {sz : Int} {c : Int → Bool} : ∀ (m : Nat) (s : Int), (sz - s).toNat = m → s ≤ sz → (∀ j : Int, s ≤ j → j < sz → c j = true) → rn sz c s = sz := by
  intro m
  induction m with
  | zero => intro s h h1 _; rw [rn_end (by omega)]; omega
  | succ m ih =>
    intro s h h1 h2
    rw [rn_go (by omega) (h2 s (by omega) (by omega))]
    exact ih (s + 1) (by omega) (by omega) (fun j j0 j1 => h2 j (by omega) j1)
/-- the group that the class has then -/
theorem gd_of {m : Nat} {μ : Mu} {q : Int} (hm : (m : Int) = lmy G) (hN : NS G σ m) (hC : CPG σ q μ) (h7 : μ 0 7 = q) (h8 : μ 0 8 = 51 - q) (h42 : μ 42 7 < 45) :
    ∃ D, GD μ q D m ∧ (dK D = lkn G ∧ dN D = (m : Int)) ∧ (∀ i : Int, 0 ≤ i → i < (m : Int) → dB D i = lkd G i ∧ dH D i = lpl G i) ∧ ∀ i : Int, 0 ≤ i → i + 1 < (m : Int) → dX D (i + 1) = dX D i + lwd G (lkd G i) := by
  obtain ⟨hS, ⟨f7, f0, f1, f2, f3⟩, hr, hwd, hpt, hI, hG, hpr⟩ := hC
  obtain ⟨⟨n0, n1⟩, ⟨n2, n3, n4, n5⟩, ⟨w1, w2, w3⟩, hrow, -⟩ := hN
  have hmy := lmy_r G
  have hkn := lkn_r G
  have e7 : μ q 7 = (m : Int) := f7.trans n0
  have ht : ∀ k : Nat, (k : Int) < (m : Int) → σ 4 k = ltm G k := by
    intro k
    induction k with
    | zero => intro _; exact (hS.2.2.2.2.1 (by omega)).1
    | succ k ih =>
      intro hk
      rw [show ((k + 1 : Nat) : Int) = (k : Int) + 1 by omega, (hS.2.2.2.2.2 k (by omega) (by omega)).1, ih (by omega), ltm_s (by omega), (hrow k (by omega) (by omega)).1, (lok_kn (lkd_r G k)).1]
  have hml : mlg μ q = 16 := by unfold mlg; rw [f1, f2, n2, n3]; rfl
  have hbl : blg (μ q 2) = 16 := by rw [f2, n3]; rfl
  have h6 : ∀ j : Int, 0 ≤ j → j < (m : Int) → 0 ≤ μ (q + 6) j ∧ μ (q + 6) j < 16 := by
    intro j j0 j1
    obtain ⟨k, rfl⟩ : ∃ k : Nat, j = k := ⟨j.toNat, by omega⟩
    rw [(hr k j0 (by omega)).2.2.2.1, ht k j1]
    have h1 := ltm_b G (i := k) (by omega)
    have h2 := lng_r (lkd G k)
    omega
  have hbm : ∀ j : Int, 0 ≤ j → j < (m : Int) → bmz μ q j = lkd G j := by
    intro j j0 j1
    unfold bmz
    rw [(hr j j0 (by omega)).2.1, (hrow j j0 j1).2.1, if_neg (by decide), (hr j j0 (by omega)).1, (hrow j j0 j1).1, (lok_kn (lkd_r G j)).2.1]
  have htog : ∀ j : Int, 0 ≤ j → j < (m : Int) → tog μ q 0 0 j = true := by
    intro j j0 j1
    have a1 := h6 j j0 j1
    have a0 := h6 0 (by decide) (by omega)
    have hk := lkd_r G j
    unfold tog
    rw [decide_eq_true_iff, hbm j j0 j1]
    refine ⟨by omega, ?_, ?_⟩
    · unfold mof
      rw [hml]
      omega
    · unfold pof twn
      rw [hml, hbl, if_neg (by decide), if_neg (by decide), show μ (q + 6) j % 16 / 16 = 0 by omega, show μ (q + 6) 0 % 16 / 16 = 0 by omega]
  have hrun : runl μ q 0 0 = (m : Int) := by
    unfold runl
    rw [e7, rn_full _ 0 rfl (by omega) htog]
    omega
  have hseg : seg (μ q 7) (fun j => runl μ q j 0) 0 = [(0, (m : Int))] := by
    rw [seg_go (by omega) (by show 1 < runl μ q 0 0; omega) (by show runl μ q 0 0 ≤ _; omega)]
    show (0, runl μ q 0 0) :: seg (μ q 7) (fun j => runl μ q j 0) (0 + runl μ q 0 0) = _
    rw [hrun, seg_end (by omega)]
  rw [hseg] at hpr
  have hg1 : (μ q 14).toNat = 1 := by
    have := congrArg List.length hpr
    unfold prl at this
    rw [List.length_map, List.length_range] at this
    exact this
  have hg0 := hG.1.1
  have g14 : μ q 14 = 1 := by omega
  have h910 : μ (q + 9) 0 = 0 ∧ μ (q + 10) 0 = (m : Int) := by
    unfold prl at hpr
    rw [hg1] at hpr
    have h9 : [((μ (q + 9) ((0 : Nat) : Int)), (μ (q + 10) ((0 : Nat) : Int)))] = [((0 : Int), (m : Int))] := hpr
    have h10 := List.head_eq_of_cons_eq h9
    rw [Prod.mk.injEq] at h10
    exact h10
  have hGD : GD μ q (ddt μ q (q + 5) (μ q 3) 0) m := ⟨⟨h7, h8, hI, hG, by rw [f3, n4]; exact hkn⟩, ⟨⟨e7, g14⟩, h910⟩, rfl, h42⟩
  refine ⟨_, hGD, ⟨by rw [hGD.kn, f3, n4], hGD.n.symm⟩, fun i i0 i1 => ⟨?_, ?_⟩, fun i i0 i1 => ?_⟩
  · rw [hGD.dD, gdt_b ⟨i0, i1⟩, Int.zero_add, hbm i i0 i1]
  · rw [hGD.dD, gdt_h ⟨i0, i1⟩, Int.zero_add, (hr i i0 (by omega)).2.2.1, (hrow i i0 i1).2.2]
  · rw [hGD.dD, gdt_x ⟨by omega, i1⟩, gdt_x ⟨i0, by omega⟩, Int.zero_add, Int.zero_add, (hr i i0 (by omega)).2.2.2.2, (hr (i + 1) (by omega) (by omega)).2.2.2.2, (hS.2.2.2.2.2 i i0 (by omega)).2, (hrow i i0 (by omega)).1, (lok_kn (lkd_r G i)).2.1]
    have hk := lkd_r G i
    have hc : lkd G i = 1 ∨ lkd G i = 2 ∨ lkd G i = 3 := by omega
    have hw : σ 7 (lkd G i) = lwd G (lkd G i) := by rcases hc with q | q | q <;> rw [q] <;> assumption
    rw [hw]
    omega
end rd2
