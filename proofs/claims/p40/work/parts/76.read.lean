/-! ===== The law's text, read: the state that its lines make ===== -/
section rd1
variable {b : Int → Int} {n a e v s : Int} {σ : Mu} {l l' : List Int} {x : Int}
theorem rn_run {sz : Int} {c : Int → Bool} : ∀ (m : Nat) (s : Int), (∀ j : Nat, j < m → c (s + j) = true) → s + m ≤ sz → ¬ c (s + m) = true → rn sz c s = s + m := by
  intro m
  induction m with
  | zero =>
    intro s _ _ h
    rw [show s + ((0 : Nat) : Int) = s by omega] at h ⊢
    exact rn_no h
  | succ m ih =>
    intro s h1 h2 h3
    have h0 := h1 0 (by omega)
    rw [show s + ((0 : Nat) : Int) = s by omega] at h0
    rw [rn_go (by omega) h0, ih (s + 1) (fun j hj => by rw [show s + 1 + (j : Int) = s + ((j + 1 : Nat) : Int) by omega]; exact h1 (j + 1) (by omega)) (by omega) (by rw [show s + 1 + (m : Int) = s + ((m + 1 : Nat) : Int) by omega]; exact h3)]
    omega
/-- these bytes stand from a on -/
def bm (b : Int → Int) (a : Int) (l : List Int) : Prop := ∀ j : Nat, j < l.length → b (a + j) = l.getD j 0
theorem bm_l (h : bm b a (l ++ l')) : bm b a l := fun j hj => by rw [h j (by rw [List.length_append]; omega), getD_l hj]
theorem bm_r (h : bm b a (l ++ l')) : bm b (a + l.length) l' := fun j hj => by
  have := h (l.length + j) (by rw [List.length_append]; omega)
  rw [getD_r] at this
  rw [← this]
  congr 1
  omega
theorem bm_1 (h : bm b a (x :: l)) : b a = x := by
  have := h 0 (by simp)
  rw [show a + ((0 : Nat) : Int) = a by omega] at this
  exact this
theorem bm_t (h : bm b a (x :: l)) : bm b (a + 1) l := fun j hj => by
  have := h (j + 1) (by simp; omega)
  rw [show a + 1 + (j : Int) = a + ((j + 1 : Nat) : Int) by omega, this]
  rfl
theorem num0 (hd : bm b a (dgl v)) (hv : 0 ≤ v ∧ v ≤ 99) (hc : ¬ (48 ≤ b (a + (dgl v).length) ∧ b (a + (dgl v).length) ≤ 57)) (hn : a + (dgl v).length < n) :
    sk b n a = a ∧ (48 ≤ b a ∧ b a ≤ 57) ∧ de b n a = a + (dgl v).length ∧ nvl b a (dgl v).length = v := by
  by_cases h : v < 10
  · have e : dgl v = [48 + v] := by unfold dgl; rw [if_pos h]
    rw [e] at hd hc hn ⊢
    have h1 := bm_1 hd
    refine ⟨sk_no (by omega), by omega, ?_, ?_⟩
    · refine rn_run 1 a (fun j hj => ?_) (Int.le_of_lt hn) (by unfold dgB; simpa using hc)
      have : j = 0 := by omega
      subst this
      rw [show a + ((0 : Nat) : Int) = a by omega]
      unfold dgB
      rw [decide_eq_true_iff]
      omega
    · show nvl b a (0 + 1) = v
      rw [nvl_s (by decide)]
      show min 100000 (0 * 10 + b (a + 0) - 48) = v
      rw [Int.add_zero, h1]
      omega
  · have e : dgl v = [48 + v / 10, 48 + v % 10] := by unfold dgl; rw [if_neg h]
    rw [e] at hd hc hn ⊢
    have h1 := bm_1 hd
    have h2 := bm_1 (bm_t hd)
    refine ⟨sk_no (by omega), by omega, ?_, ?_⟩
    · refine rn_run 2 a (fun j hj => ?_) (Int.le_of_lt hn) (by unfold dgB; simpa using hc)
      have : j = 0 ∨ j = 1 := by omega
      unfold dgB
      rw [decide_eq_true_iff]
      rcases this with rfl | rfl
      · rw [show a + ((0 : Nat) : Int) = a by omega]; omega
      · rw [show a + ((1 : Nat) : Int) = a + 1 by omega]; omega
    · show nvl b a (0 + 1 + 1) = v
      rw [nvl_s (by decide), nvl_s (by decide)]
      show min 100000 ((min 100000 (0 * 10 + b (a + 0) - 48)) * 10 + b (a + (0 + 1)) - 48) = v
      rw [Int.add_zero, Int.zero_add, h1, h2]
      omega
theorem numE {L : Int} (he : sk b n e = a) (h : (48 ≤ b a ∧ b a ≤ 57) ∧ de b n a = a + L ∧ nvl b a L = v) (hn : a < n) : dgA b n e ∧ nval b n e = v ∧ de b n (sk b n e) = a + L := by
  refine ⟨?_, ?_, by rw [he]; exact h.2.1⟩
  · show 48 ≤ see b n (sk b n e) ∧ see b n (sk b n e) ≤ 57
    rw [he]
    unfold see
    rw [if_pos hn]
    exact h.1
  · unfold nval
    rw [he, h.2.1, show a + L - a = L by omega]
    exact h.2.2
/-- a number behind a blank -/
theorem numB (hb : b e = 32) (hd : bm b (e + 1) (dgl v)) (hv : 0 ≤ v ∧ v ≤ 99) (hc : ¬ (48 ≤ b (e + 1 + (dgl v).length) ∧ b (e + 1 + (dgl v).length) ≤ 57)) (hn : e + 1 + (dgl v).length < n) :
    dgA b n e ∧ nval b n e = v ∧ de b n (sk b n e) = e + 1 + (dgl v).length ∧ sk b n e = e + 1 := by
  obtain ⟨h1, h2⟩ := num0 hd hv hc hn
  have h0 : sk b n e = e + 1 := (sk_go (by omega) (Or.inr hb)).trans h1
  obtain ⟨h3, h4, h5⟩ := numE h0 h2 (by omega)
  exact ⟨h3, h4, h5, h0⟩
/-- a word, and a blank behind -/
theorem wd_at {i : Int} (hi : i = 0 ∨ i = 2 ∨ i = 3 ∨ i = 4) (hw : bm b s (wcl.getD i.toNat [])) (hb : b (s + wln i) = 32) (hn : s + wln i < n) : sk b n s = s ∧ we b n s = s + wln i ∧ wdC b s (s + wln i) = i := by
  have run : ∀ m : Nat, (∀ j : Nat, j < m → 97 ≤ b (s + j) ∧ b (s + j) ≤ 122) → s + m < n → b (s + m) = 32 → we b n s = s + m := fun m h1 h2 h3 => rn_run m s (fun j hj => by unfold ltB; rw [decide_eq_true_iff]; exact h1 j hj) (by omega) (by unfold ltB; simp [h3])
  have four : ∀ (i x0 x1 x2 x3 : Int), wln i = 4 → bm b s [x0, x1, x2, x3] → ((97 ≤ x0 ∧ x0 ≤ 122) ∧ (97 ≤ x1 ∧ x1 ≤ 122) ∧ (97 ≤ x2 ∧ x2 ≤ 122) ∧ (97 ≤ x3 ∧ x3 ≤ 122)) → (x0 = wch i 0 ∧ x1 = wch i 1 ∧ x2 = wch i 2 ∧ x3 = wch i 3) → b (s + wln i) = 32 → s + wln i < n → spd b s (s + wln i) i = true ∧ (97 ≤ b s ∧ b s ≤ 122) ∧ we b n s = s + wln i := by
    intro i x0 x1 x2 x3 hl h0 r0 ⟨e0, e1, e2, e3⟩ hb hn
    rw [hl] at hb hn ⊢
    have c0 := bm_1 h0
    have c1 := bm_1 (bm_t h0)
    have c2 := bm_1 (bm_t (bm_t h0))
    have c3 := bm_1 (bm_t (bm_t (bm_t h0)))
    refine ⟨spd_t (k := 4) (by omega) hl.symm ((spI_all (by decide)).mpr (fun j j0 j1 => ?_)), by omega, run 4 (fun j hj => ?_) hn hb⟩
    · have hj : j = 0 ∨ j = 1 ∨ j = 2 ∨ j = 3 := by omega
      rcases hj with rfl | rfl | rfl | rfl
      · rw [Int.add_zero]; exact c0.trans e0
      · exact c1.trans e1
      · rw [show s + 2 = s + 1 + 1 by omega]; exact c2.trans e2
      · rw [show s + 3 = s + 1 + 1 + 1 by omega]; exact c3.trans e3
    · have hj5 : j = 0 ∨ j = 1 ∨ j = 2 ∨ j = 3 := by omega
      rcases hj5 with rfl | rfl | rfl | rfl
      · rw [show s + ((0 : Nat) : Int) = s by omega]; omega
      · rw [show s + ((1 : Nat) : Int) = s + 1 by omega]; omega
      · rw [show s + ((2 : Nat) : Int) = s + 1 + 1 by omega]; omega
      · rw [show s + ((3 : Nat) : Int) = s + 1 + 1 + 1 by omega]; omega
  have ok : spd b s (s + wln i) i = true ∧ (97 ≤ b s ∧ b s ≤ 122) ∧ we b n s = s + wln i := by
    rcases hi with rfl | rfl | rfl | rfl
    · have h0 : bm b s [109, 101, 116, 114, 101] := hw
      have c0 := bm_1 h0
      have c1 := bm_1 (bm_t h0)
      have c2 := bm_1 (bm_t (bm_t h0))
      have c3 := bm_1 (bm_t (bm_t (bm_t h0)))
      have c4 := bm_1 (bm_t (bm_t (bm_t (bm_t h0))))
      refine ⟨spd_t (show s + wln 0 - s = wln 0 by omega) rfl ((spI_all (by decide)).mpr (fun j j0 j1 => ?_)), by omega, run 5 (fun j hj => ?_) hn hb⟩
      · have hj : j = 0 ∨ j = 1 ∨ j = 2 ∨ j = 3 ∨ j = 4 := by have : j < 5 := j1; omega
        rcases hj with rfl | rfl | rfl | rfl | rfl
        · rw [Int.add_zero]; exact c0
        · exact c1
        · rw [show s + 2 = s + 1 + 1 by omega]; exact c2
        · rw [show s + 3 = s + 1 + 1 + 1 by omega]; exact c3
        · rw [show s + 4 = s + 1 + 1 + 1 + 1 by omega]; exact c4
      · have hj5 : j = 0 ∨ j = 1 ∨ j = 2 ∨ j = 3 ∨ j = 4 := by omega
        rcases hj5 with rfl | rfl | rfl | rfl | rfl
        · rw [show s + ((0 : Nat) : Int) = s by omega]; omega
        · rw [show s + ((1 : Nat) : Int) = s + 1 by omega]; omega
        · rw [show s + ((2 : Nat) : Int) = s + 1 + 1 by omega]; omega
        · rw [show s + ((3 : Nat) : Int) = s + 1 + 1 + 1 by omega]; omega
        · rw [show s + ((4 : Nat) : Int) = s + 1 + 1 + 1 + 1 by omega]; omega
    · exact four 2 107 110 101 101 rfl hw (by decide) (by decide) hb hn
    · exact four 3 119 105 100 101 rfl hw (by decide) (by decide) hb hn
    · exact four 4 110 111 116 101 rfl hw (by decide) (by decide) hb hn
  refine ⟨sk_no (by have := ok.2.1; omega), ok.2.2, ?_⟩
  have h0 := ok.1
  rcases hi with rfl | rfl | rfl | rfl
  · exact wdC_0 h0
  · exact wdC_2 (spd_f1 (by show ¬ s + 4 - s = 5; omega)) (spd_f1 (by show ¬ s + 4 - s = 5; omega)) h0
  · have c0 : b s = 119 := bm_1 (show bm b s [119, 105, 100, 101] from hw)
    exact wdC_3 (spd_f1 (by show ¬ s + 4 - s = 5; omega)) (spd_f1 (by show ¬ s + 4 - s = 5; omega)) (spd_f2 (k := 0) (by decide) (by rw [Int.add_zero, c0]; decide)) h0
  · have c0 : b s = 110 := bm_1 (show bm b s [110, 111, 116, 101] from hw)
    exact wdC_4 (spd_f1 (by show ¬ s + 4 - s = 5; omega)) (spd_f1 (by show ¬ s + 4 - s = 5; omega)) (spd_f2 (k := 0) (by decide) (by rw [Int.add_zero, c0]; decide)) (spd_f2 (k := 0) (by decide) (by rw [Int.add_zero, c0]; decide)) h0
/-- a line: its word, what it leaves, its end -/
theorem ln_at {i : Int} {σ' : Mu} {p : Int} (hi : i = 0 ∨ i = 2 ∨ i = 3 ∨ i = 4) (hw : bm b s (wcl.getD i.toNat [])) (hb : b (s + wln i) = 32) (hn : s + wln i < n) (h1 : ¬ (i = -1 ∨ tooL σ i)) (h3 : ¬ (i ≤ 2 ∧ ¬ tldS σ i = 0)) (h4 : ¬ (4 ≤ i ∧ 64 ≤ σ 0 0))
    (hB : lBod b n σ i (s + wln i) = (0, 0, σ', p)) (hp : b p = 59 ∧ p < n) : lnF b n σ s = (0, 0, σ', p + 1) ∧ sk b n s = s := by
  obtain ⟨w1, w2, w3⟩ := wd_at hi hw hb hn
  refine ⟨?_, w1⟩
  have hs : sk b n p = p := sk_no (by omega)
  unfold lnF
  rw [w1, w2, w3, lnW_b h1 h3 h4, hB, lEnd_0 rfl (by show see b n (sk b n p) = 59; rw [hs]; unfold see; rw [if_pos hp.2]; exact hp.1)]
  show (0, 0, σ', sk b n p + 1) = _
  rw [hs]
/-- the law's lines -/
def LM : List Int := [109, 101, 116, 114, 101] ++ [32] ++ dgl 1 ++ [32] ++ dgl 2 ++ [59]
def LK (v : Int) : List Int := [107, 110, 101, 101] ++ [32] ++ dgl v ++ [59]
def LWd (k v : Int) : List Int := [119, 105, 100, 101] ++ [32] ++ dgl k ++ [32] ++ dgl v ++ [59]
def LE (k p : Int) : List Int := [110, 111, 116, 101] ++ [32] ++ dgl k ++ [32] ++ (if p < 0 then [45, 32] else []) ++ dgl (if 0 ≤ p then p else -p) ++ [59]
theorem ln_kne (h : bm b s (LK v)) (hv : 4 ≤ v ∧ v ≤ 24) (hn : s + (LK v).length ≤ n) (hσ : σ 0 0 = 0 ∧ σ 0 7 = 0) : lnF b n σ s = (0, 0, knS σ v, s + (LK v).length) ∧ sk b n s = s := by
  unfold LK at h hn ⊢
  have hE := bm_1 (bm_r h)
  have hD := bm_r (bm_l h)
  have hS := bm_1 (bm_r (bm_l (bm_l h)))
  have hW := bm_l (bm_l (bm_l h))
  simp only [List.length_append, List.length_cons, List.length_nil] at hE hD hS hn ⊢
  have hd := dgl_l v
  have e1 : b (s + 4) = 32 := by rw [← hS]; congr 1
  have hn9 : s + (4 + 1 + (dgl v).length + 1) ≤ n := by omega
  have e2 : b (s + 4 + 1 + (dgl v).length) = 59 := by rw [← hE]; congr 1; omega
  have hD' : bm b (s + 4 + 1) (dgl v) := by rw [show s + 4 + 1 = s + ((0 + 1 + 1 + 1 + 1 + (0 + 1) : Nat) : Int) by omega]; exact hD
  obtain ⟨n1, n2, n3, n4⟩ := numB (n := n) e1 hD' (by omega) (by rw [e2]; decide) (by omega)
  have hB : lBod b n σ 2 (s + wln 2) = (0, 0, knS σ v, s + 4 + 1 + (dgl v).length) := by
    show lBod b n σ 2 (s + 4) = _
    rw [lBod_2]
    unfold lKne
    rw [nW_0 n1 (by rw [n2]; exact hv), if_neg (fun q => q rfl), n2, n3]
  have h9 := ln_at (i := 2) (Or.inr (Or.inl rfl)) hW e1 (by show s + 4 < n; omega) (fun q => q.elim (by decide) (fun q => by have := q.2; omega)) (fun q => q.2 hσ.2) (fun q => absurd q.1 (by decide)) hB ⟨e2, by omega⟩
  rw [h9.1]
  refine ⟨?_, h9.2⟩
  rw [show s + 4 + 1 + ((dgl v).length : Int) + 1 = s + ((0 + 1 + 1 + 1 + 1 + (0 + 1) + (dgl v).length + (0 + 1) : Nat) : Int) by omega]
theorem ln_met (h : bm b s LM) (hn : s + 10 ≤ n) (hσ : σ 0 0 = 0 ∧ σ 0 5 = 0 ∧ σ 0 6 = 0) : lnF b n σ s = (0, 0, metS σ 1 2, s + 10) ∧ sk b n s = s := by
  unfold LM at h
  have d1 : dgl 1 = [49] := by decide
  have d2 : dgl 2 = [50] := by decide
  have hE := bm_1 (bm_r h)
  have hD2 := bm_r (bm_l h)
  have hS2 := bm_1 (bm_r (bm_l (bm_l h)))
  have hD := bm_r (bm_l (bm_l (bm_l h)))
  have hS := bm_1 (bm_r (bm_l (bm_l (bm_l (bm_l h)))))
  have hW := bm_l (bm_l (bm_l (bm_l (bm_l h))))
  simp only [List.length_append, List.length_cons, List.length_nil, d1, d2] at hE hD hS hS2 hD2
  have e1 : b (s + 5) = 32 := by rw [← hS]; congr 1
  have e3 : b (s + 7) = 32 := by rw [← hS2]; congr 1
  have e4 : b (s + 9) = 59 := by rw [← hE]; congr 1
  have hD' : bm b (s + 5 + 1) (dgl 1) := by rw [d1, show s + 5 + 1 = s + ((0 + 1 + 1 + 1 + 1 + 1 + (0 + 1) : Nat) : Int) by omega]; exact hD
  have hD2' : bm b (s + 7 + 1) (dgl 2) := by rw [d2, show s + 7 + 1 = s + ((0 + 1 + 1 + 1 + 1 + 1 + (0 + 1) + (0 + 1) + (0 + 1) : Nat) : Int) by omega]; exact hD2
  have l1 : ((dgl 1).length : Int) = 1 := by rw [d1]; rfl
  have l2 : ((dgl 2).length : Int) = 1 := by rw [d2]; rfl
  obtain ⟨n1, n2, n3, n4⟩ := numB (n := n) e1 hD' (by decide) (by rw [l1, show s + 5 + 1 + 1 = s + 7 by omega, e3]; decide) (by omega)
  obtain ⟨m1, m2, m3, m4⟩ := numB (n := n) e3 hD2' (by decide) (by rw [l2, show s + 7 + 1 + 1 = s + 9 by omega, e4]; decide) (by omega)
  rw [l1, show s + 5 + 1 + 1 = s + 7 by omega] at n3
  rw [l2, show s + 7 + 1 + 1 = s + 9 by omega] at m3
  have hB : lBod b n σ 0 (s + wln 0) = (0, 0, metS σ 1 2, s + 9) := by
    show lBod b n σ 0 (s + 5) = _
    rw [lBod_0]
    unfold lMet
    rw [nW_0 n1 (by rw [n2]; decide), n2, n3]
    show (if ¬ (0 : Int) = 0 then _ else if ¬ dgA b n (s + 7) then _ else if ¬ (nval b n (s + 7) = 2 ∨ nval b n (s + 7) = 4 ∨ nval b n (s + 7) = 8) then _ else ((0 : Int), (0 : Int), metS σ 1 (nval b n (s + 7)), de b n (sk b n (s + 7)))) = _
    rw [if_neg (fun q => q rfl), if_neg (fun q => q m1), m2, if_neg (fun q => q (Or.inl rfl)), m3]
  have h9 := ln_at (i := 0) (Or.inl rfl) hW e1 (by show s + 5 < n; omega) (fun q => q.elim (by decide) (fun q => by have := q.2; omega)) (fun q => q.2 hσ.2.2) (fun q => absurd q.1 (by decide)) hB ⟨e4, by omega⟩
  rw [h9.1]
  refine ⟨?_, h9.2⟩
  rw [show s + 9 + 1 = s + 10 by omega]
theorem ln_wid {k : Int} (h : bm b s (LWd k v)) (hk : k = 8 ∨ k = 16 ∨ k = 32) (hv : 4 ≤ v ∧ v ≤ 40) (hn : s + (LWd k v).length ≤ n) (hσ : σ 0 0 = 0 ∧ σ 8 (bok k) = 0) : lnF b n σ s = (0, 0, wdS σ (bok k) v, s + (LWd k v).length) ∧ sk b n s = s := by
  unfold LWd at h hn ⊢
  have hE := bm_1 (bm_r h)
  have hD2 := bm_r (bm_l h)
  have hS2 := bm_1 (bm_r (bm_l (bm_l h)))
  have hD := bm_r (bm_l (bm_l (bm_l h)))
  have hS := bm_1 (bm_r (bm_l (bm_l (bm_l (bm_l h)))))
  have hW := bm_l (bm_l (bm_l (bm_l (bm_l h))))
  simp only [List.length_append, List.length_cons, List.length_nil] at hE hD hS hS2 hD2 hn ⊢
  have l1 := dgl_l k
  have l2 := dgl_l v
  have e1 : b (s + 4) = 32 := by rw [← hS]; congr 1
  have e3 : b (s + 4 + 1 + (dgl k).length) = 32 := by rw [← hS2]; congr 1; omega
  have e4 : b (s + 4 + 1 + (dgl k).length + 1 + (dgl v).length) = 59 := by rw [← hE]; congr 1; omega
  have hD' : bm b (s + 4 + 1) (dgl k) := by rw [show s + 4 + 1 = s + ((0 + 1 + 1 + 1 + 1 + (0 + 1) : Nat) : Int) by omega]; exact hD
  have hD2' : bm b (s + 4 + 1 + (dgl k).length + 1) (dgl v) := by rw [show s + 4 + 1 + ((dgl k).length : Int) + 1 = s + ((0 + 1 + 1 + 1 + 1 + (0 + 1) + (dgl k).length + (0 + 1) : Nat) : Int) by omega]; exact hD2
  obtain ⟨n1, n2, n3, n4⟩ := numB (n := n) e1 hD' (by omega) (by rw [e3]; decide) (by omega)
  obtain ⟨m1, m2, m3, m4⟩ := numB (n := n) e3 hD2' (by omega) (by rw [e4]; decide) (by omega)
  have hB : lBod b n σ 3 (s + wln 3) = (0, 0, wdS σ (bok k) v, s + 4 + 1 + (dgl k).length + 1 + (dgl v).length) := by
    show lBod b n σ 3 (s + 4) = _
    rw [lBod_3]
    unfold lWid
    rw [nK_0 n1 (by rw [n2]; omega), n2, n3]
    show (if ¬ (0 : Int) = 0 then _ else if ¬ σ 8 (bok k) = 0 then _ else if ¬ (nW b n 4 40 (s + 4 + 1 + (dgl k).length)).1 = 0 then _ else ((0 : Int), (0 : Int), wdS σ (bok k) (nW b n 4 40 (s + 4 + 1 + (dgl k).length)).2.2.1, (nW b n 4 40 (s + 4 + 1 + (dgl k).length)).2.2.2)) = _
    rw [if_neg (fun q => q rfl), if_neg (fun q => q hσ.2), nW_0 m1 (by rw [m2]; exact hv), if_neg (fun q => q rfl), m2, m3]
  have h9 := ln_at (i := 3) (Or.inr (Or.inr (Or.inl rfl))) hW e1 (by show s + 4 < n; omega) (fun q => q.elim (by decide) (fun q => by have := q.2; omega)) (fun q => absurd q.1 (by decide)) (fun q => absurd q.1 (by decide)) hB ⟨e4, by omega⟩
  rw [h9.1]
  refine ⟨?_, h9.2⟩
  rw [show s + 4 + 1 + ((dgl k).length : Int) + 1 + ((dgl v).length : Int) + 1 = s + ((0 + 1 + 1 + 1 + 1 + (0 + 1) + (dgl k).length + (0 + 1) + (dgl v).length + (0 + 1) : Nat) : Int) by omega]
/-- a POSITION: a sign perhaps -/
theorem pos_at {p : Int} (hb : b e = 32) (h : bm b (e + 1) ((if p < 0 then [45, 32] else []) ++ dgl (if 0 ≤ p then p else -p))) (hp : -12 ≤ p ∧ p ≤ 12) (hc : b (e + 1 + ((if p < 0 then [45, 32] else []) ++ dgl (if 0 ≤ p then p else -p)).length) = 59) (hn : e + 1 + ((if p < 0 then [45, 32] else []) ++ dgl (if 0 ≤ p then p else -p)).length < n) :
    nP b n e = (0, 0, p, e + 1 + ((if p < 0 then [45, 32] else []) ++ dgl (if 0 ≤ p then p else -p)).length) := by
  by_cases hs : p < 0
  · have e1 : (if p < 0 then [45, 32] else ([] : List Int)) = [45, 32] := if_pos hs
    have e2 : (if 0 ≤ p then p else -p) = -p := if_neg (by omega)
    rw [e1, e2] at h hc hn ⊢
    have b1 := bm_1 (bm_l h)
    have b2 := bm_1 (bm_t (bm_l h))
    have hD := bm_r h
    rw [List.length_append] at hc hn ⊢
    have l0 : ([45, 32] : List Int).length = 2 := rfl
    rw [l0] at hc hn hD ⊢
    have hD' : bm b (e + 1 + 1 + 1) (dgl (-p)) := by rw [show e + 1 + 1 + 1 = e + 1 + ((2 : Nat) : Int) by omega]; exact hD
    have hl := dgl_l (-p)
    have k1 : sk b n e = e + 1 := (sk_go (by omega) (Or.inr hb)).trans (sk_no (by omega))
    have k2 : see b n (sk b n e) = 45 := by rw [k1]; unfold see; rw [if_pos (by omega)]; exact b1
    have k3 : sg b n e = e + 1 + 1 := by unfold sg; rw [if_pos k2, k1]
    have hc' : b (e + 1 + 1 + 1 + (dgl (-p)).length) = 59 := by rw [← hc]; congr 1; omega
    obtain ⟨n1, n2, n3, n4⟩ := numB (n := n) b2 hD' (by omega) (by rw [hc']; decide) (by omega)
    rw [nP_0 (by rw [k3]; exact n1) (by rw [k3, n2]; omega), k3, n2, n3, if_pos k2, show -(-p) = p by omega, show e + 1 + 1 + 1 + ((dgl (-p)).length : Int) = e + 1 + ((2 + (dgl (-p)).length : Nat) : Int) by omega]
  · have e1 : (if p < 0 then [45, 32] else ([] : List Int)) = [] := if_neg hs
    have e2 : (if 0 ≤ p then p else -p) = p := if_pos (by omega)
    rw [e1, e2, List.nil_append] at h hc hn ⊢
    have hl := dgl_l p
    obtain ⟨n1, n2, n3, n4⟩ := numB (n := n) hb h (by omega) (by rw [hc]; decide) hn
    have hdg : 48 ≤ b (e + 1) ∧ b (e + 1) ≤ 57 := by
      have h9 := n1
      show 48 ≤ b (e + 1) ∧ b (e + 1) ≤ 57
      have h8 : see b n (sk b n e) = b (e + 1) := by rw [n4]; unfold see; rw [if_pos (by omega)]
      unfold dgA at h9
      rw [h8] at h9
      exact h9
    have k2 : ¬ see b n (sk b n e) = 45 := by rw [n4]; unfold see; rw [if_pos (by omega)]; omega
    have k3 : sg b n e = e + 1 := by unfold sg; rw [if_neg k2, n4]
    have k4 : sk b n (e + 1) = e + 1 := sk_no (by omega)
    have n1' : dgA b n (e + 1) := by unfold dgA at n1 ⊢; rw [n4] at n1; rw [k4]; exact n1
    have n2' : nval b n (e + 1) = p := by unfold nval at n2 ⊢; rw [n4] at n2; rw [k4]; exact n2
    rw [nP_0 (by rw [k3]; exact n1') (by rw [k3, n2']; omega), k3, n2', if_neg k2, k4]
    rw [n4] at n3
    rw [n3]
theorem ln_ele {k p : Int} (h : bm b s (LE k p)) (hk : k = 8 ∨ k = 16 ∨ k = 32) (hp : -12 ≤ p ∧ p ≤ 12) (hn : s + (LE k p).length ≤ n) (hσ : σ 0 0 < 64 ∧ tS σ % mlS σ + lok k ≤ mlS σ) : lnF b n σ s = (0, 0, addS σ 1 k p, s + (LE k p).length) ∧ sk b n s = s := by
  have e0 : LE k p = [110, 111, 116, 101] ++ [32] ++ dgl k ++ [32] ++ ((if p < 0 then [45, 32] else []) ++ dgl (if 0 ≤ p then p else -p)) ++ [59] := by unfold LE; simp only [List.append_assoc]
  rw [e0] at h hn ⊢
  generalize hq : (if p < 0 then [45, 32] else ([] : List Int)) ++ dgl (if 0 ≤ p then p else -p) = Z at h hn ⊢
  have hE := bm_1 (bm_r h)
  have hD2 := bm_r (bm_l h)
  have hS2 := bm_1 (bm_r (bm_l (bm_l h)))
  have hD := bm_r (bm_l (bm_l (bm_l h)))
  have hS := bm_1 (bm_r (bm_l (bm_l (bm_l (bm_l h)))))
  have hW := bm_l (bm_l (bm_l (bm_l (bm_l h))))
  simp only [List.length_append, List.length_cons, List.length_nil] at hE hD hS hS2 hD2 hn ⊢
  have l1 := dgl_l k
  have e1 : b (s + 4) = 32 := by rw [← hS]; congr 1
  have e3 : b (s + 4 + 1 + (dgl k).length) = 32 := by rw [← hS2]; congr 1; omega
  have e4 : b (s + 4 + 1 + (dgl k).length + 1 + Z.length) = 59 := by rw [← hE]; congr 1; omega
  have hD' : bm b (s + 4 + 1) (dgl k) := by rw [show s + 4 + 1 = s + ((0 + 1 + 1 + 1 + 1 + (0 + 1) : Nat) : Int) by omega]; exact hD
  have hD2' : bm b (s + 4 + 1 + (dgl k).length + 1) Z := by rw [show s + 4 + 1 + ((dgl k).length : Int) + 1 = s + ((0 + 1 + 1 + 1 + 1 + (0 + 1) + (dgl k).length + (0 + 1) : Nat) : Int) by omega]; exact hD2
  obtain ⟨n1, n2, n3, n4⟩ := numB (n := n) e1 hD' (by omega) (by rw [e3]; decide) (by omega)
  have hP : nP b n (s + 4 + 1 + (dgl k).length) = (0, 0, p, s + 4 + 1 + (dgl k).length + 1 + Z.length) := by
    rw [← hq] at hD2' e4 hn ⊢
    exact pos_at e3 hD2' hp e4 (by omega)
  have hB : lBod b n σ 4 (s + wln 4) = (0, 0, addS σ 1 k p, s + 4 + 1 + (dgl k).length + 1 + Z.length) := by
    show lBod b n σ 4 (s + 4) = _
    rw [lBod_e (by decide)]
    unfold lEle
    rw [nK_0 n1 (by rw [n2]; omega), n2, n3]
    show (if ¬ (0 : Int) = 0 then _ else if ¬ (tS σ % mlS σ + lok k ≤ mlS σ) then _ else if (if (4 : Int) = 4 then (1 : Int) else 0) = 0 then _ else if ¬ (nP b n (s + 4 + 1 + (dgl k).length)).1 = 0 then _ else ((0 : Int), (0 : Int), addS σ 1 k (nP b n (s + 4 + 1 + (dgl k).length)).2.2.1, (nP b n (s + 4 + 1 + (dgl k).length)).2.2.2)) = _
    rw [if_neg (fun q => q rfl), if_neg (fun q => q hσ.2), if_neg (by decide), hP, if_neg (fun q => q rfl)]
  have h9 := ln_at (i := 4) (Or.inr (Or.inr (Or.inr rfl))) hW e1 (by show s + 4 < n; omega) (fun q => q.elim (by decide) (fun q => absurd q.1 (by decide))) (fun q => absurd q.1 (by decide)) (fun q => by have := q.2; omega) hB ⟨e4, by omega⟩
  rw [h9.1]
  refine ⟨?_, h9.2⟩
  rw [show s + 4 + 1 + ((dgl k).length : Int) + 1 + (Z.length : Int) + 1 = s + ((0 + 1 + 1 + 1 + 1 + (0 + 1) + (dgl k).length + (0 + 1) + Z.length + (0 + 1) : Nat) : Int) by omega]
end rd1
