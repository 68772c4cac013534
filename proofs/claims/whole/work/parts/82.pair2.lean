/-! ===== The pairs that change the piece: put, undo, feed, text ===== -/
section prc
variable {μ μ1 : Mu} {p : Int}
theorem INV.t (h : INV μ p) : INV (am_up μ 45 0 0) p := by
  have hp := h.cj.i.at
  refine h.b (h.rj.cg2 (fun o h1 => am_up_o (by omega)) (fun k h1 => am_up_nk (by omega))) (fun o h1 => am_up_o (by omega)) (fun k h1 => am_up_nk (by omega))
theorem PI_hd (h : PI μ p) (e : ∀ o : Int, p ≤ o ∧ o ≤ p + 10 → ¬ o = p + 5 → μ1 o = μ o) (hd : ∀ i : Int, 0 ≤ i → i < μ p 7 → -12 ≤ μ1 (p + 5) i ∧ μ1 (p + 5) i ≤ 12) : PI μ1 p := by
  unfold PI at h ⊢
  rw [e p (by omega) (by omega), e (p + 1) (by omega) (by omega), e (p + 2) (by omega) (by omega), e (p + 3) (by omega) (by omega), e (p + 4) (by omega) (by omega), e (p + 6) (by omega) (by omega), e (p + 7) (by omega) (by omega)]
  exact ⟨h.1, h.2.1, h.2.2.1, h.2.2.2.1, fun i a c => ⟨(h.2.2.2.2.1 i a c).1, (h.2.2.2.2.1 i a c).2.1, hd i a c, (h.2.2.2.2.1 i a c).2.2.2⟩, h.2.2.2.2.2⟩
theorem PG_hd (h : PG μ p) (e : ∀ o : Int, p ≤ o ∧ o ≤ p + 10 → ¬ o = p + 5 → μ1 o = μ o) : PG μ1 p := by
  unfold PG at h ⊢
  rw [e p (by omega) (by omega), e (p + 3) (by omega) (by omega), e (p + 4) (by omega) (by omega), e (p + 7) (by omega) (by omega), e (p + 8) (by omega) (by omega), e (p + 9) (by omega) (by omega), e (p + 10) (by omega) (by omega)]
  exact h
theorem CJ_hd (h : CJ μ p) (e : ∀ o : Int, o = 0 ∨ (p ≤ o ∧ o ≤ p + 10) → ¬ o = p + 5 → μ1 o = μ o) (hd : ∀ i : Int, 0 ≤ i → i < μ p 7 → -12 ≤ μ1 (p + 5) i ∧ μ1 (p + 5) i ≤ 12) : CJ μ1 p := by
  have hp := h.i.at
  have e0 : μ1 0 = μ 0 := e 0 (by omega) (by omega)
  exact ⟨by rw [e0]; exact h.p7, by rw [e0]; exact h.p8, PI_hd h.i (fun o h1 h2 => e o (by omega) h2) hd, PG_hd h.pg (fun o h1 h2 => e o (by omega) h2), by rw [e p (by omega) (by omega)]; exact h.kn⟩
theorem RX.cg3 (h : RX μ p) (e : ∀ o : Int, (46 ≤ o ∧ o ≤ 47) ∨ (p ≤ o ∧ o ≤ p + 2) → μ1 o = μ o) (f : ∀ k : Int, k = 4 ∨ k = 11 → μ1 45 k = μ 45 k) : RX μ1 p := by
  unfold RX PT evn at h ⊢
  rw [f 4 (by omega), f 11 (by omega), e 46 (by omega), e 47 (by omega), e p (by omega), e (p + 1) (by omega), e (p + 2) (by omega)]
  exact h
theorem hsN_cg {f g : Int → Int} {s v v' j : Int} (hs : 0 ≤ s ∧ s ≤ 20) (h : ∀ j : Int, 0 ≤ j → j < s → f j = g j) (hv : v = v') (h0 : 0 ≤ j) (h1 : j < min (s + 1) 20) : hsN f s v j = hsN g s v' j := by
  subst hv
  unfold hsN
  by_cases a : s = 20
  · rw [if_pos a, if_pos a]
    by_cases b : j = 19
    · rw [if_pos b, if_pos b]
    · rw [if_neg b, if_neg b]; exact h _ (by omega) (by omega)
  · rw [if_neg a, if_neg a]
    by_cases b : j = s
    · rw [if_pos b, if_pos b]
    · rw [if_neg b, if_neg b]; exact h _ (by omega) (by omega)
theorem hsN_in {P : Int → Prop} {f : Int → Int} {s v j : Int} (hs : 0 ≤ s ∧ s ≤ 20) (h : ∀ j : Int, 0 ≤ j → j < s → P (f j)) (hv : P v) (h0 : 0 ≤ j) (h1 : j < min (s + 1) 20) : P (hsN f s v j) := by
  unfold hsN
  by_cases a : s = 20
  · rw [if_pos a]
    by_cases b : j = 19
    · rw [if_pos b]; exact hv
    · rw [if_neg b]; exact h _ (by omega) (by omega)
  · rw [if_neg a]
    by_cases b : j = s
    · rw [if_pos b]; exact hv
    · rw [if_neg b]; exact h _ (by omega) (by omega)
theorem pr_put (X : AX) (h : INV μ p) (i q : Int) (hi : -2147483648 ≤ i ∧ i ≤ 2147483647) (hq : -2147483648 ≤ q ∧ q ≤ 2147483647) : PR X M_X7_put M_X8_put [(2, 0), (0, i), (0, q), (9, 0)] [(2, 45), (0, i), (0, q), (9, 0)] μ := by
  have hp := h.cj.i.at
  have hh := h.hi
  obtain ⟨_, μ1, e7, z7, rfl, F7, w7⟩ := s_X7_put X p i q μ h.cj hi hq hh.1
  rcases w7 with ⟨c, hz, h2, h4, h5, hr⟩ | ⟨c, hz, e9⟩
  · have a7 : ∀ o : Int, ¬ (3 ≤ o ∧ o ≤ 5) → ¬ o = p + 5 → μ1 o = μ o := fun o q1 q2 => F7.at (by omega) (by omega)
    have e45 : μ1 45 = μ 45 := a7 45 (by omega) (by omega)
    have hd : ∀ j : Int, 0 ≤ j → j < μ p 7 → -12 ≤ μ1 (p + 5) j ∧ μ1 (p + 5) j ≤ 12 := fun j q1 q2 => by
      rw [hr]
      split
      · exact c.2
      · exact h.cj.i.hd rfl ⟨q1, q2⟩
    have hC1 : CJ μ1 p := CJ_hd h.cj (fun o q1 q2 => a7 o (by omega) q2) hd
    have hK1 : RK μ1 p := h.rj.rk (fun o q1 q2 q3 => a7 o (by omega) (by omega)) hp (fun k _ => congrFun e45 k)
    obtain ⟨_, μ2, e8, z8, rfl, F8, w8, f8, k8, k8'⟩ := s_X8_put X p i q μ1 hC1 hK1 hi hq (by rw [e45, hh.2.1]; exact hh.1)
    have e0p : μ1 p = μ p := a7 p (by omega) (by omega)
    have e4p : μ1 (p + 4) = μ (p + 4) := a7 (p + 4) (by omega) (by omega)
    rw [← e0p, ← e4p] at c
    rcases w8 with ⟨c8, y1, y2, y3, y4, y5, y6, y7⟩ | ⟨c8, _⟩
    · have a8 : ∀ o : Int, o ≤ 44 → μ2 o = μ1 o := fun o q1 => F8.at (by omega) (by omega)
      have e50 : μ1 50 = μ 50 := a7 50 (by omega) (by omega)
      have hb50 : ∀ j : Int, 0 ≤ j → j < μ p 7 → μ2 50 j = μ2 (p + 5) j := fun j q1 q2 => by
        rw [y5, a8 (p + 5) (by omega), hr, e50]
        by_cases e : j = i
        · rw [if_pos e, if_pos e]
        · rw [if_neg e, if_neg e]; exact h.rj.po ⟨q1, q2⟩
      have e2p : μ2 p = μ p := (a8 p (by omega)).trans e0p
      have hK2 : RK μ2 p := hK1.cg2 (fun o q1 => by by_cases q : o ≤ 49 ∧ 46 ≤ o; exact k8 o (by omega); exact F8.at (by omega) (by omega)) (fun k q1 => f8 k (by omega))
      have hsz := h.cj.i.sz
      have hJ2 : RJ μ2 p := hK2.of (by rw [y7, a8 p (by omega)]; exact hK1.1.2.2.1) (fun j q1 q2 => hb50 j q1 (by rw [← e2p]; exact q2)) (fun j q1 q2 => (y6 j q1 (by rw [e2p] at q2; omega)).trans (hb50 j q1 (by rw [← e2p]; exact q2)))
      have hz8 : z8 = z7 := by rw [y1, hz, e50]; exact h.rj.po ⟨c.1.1, by rw [← e0p]; exact c.1.2.1⟩
      rw [e45, hh.2.1] at y2 y3 y4
      have e69 : μ1 69 = μ 69 := a7 69 (by omega) (by omega)
      have e70 : μ1 70 = μ 70 := a7 70 (by omega) (by omega)
      have hcs : 0 ≤ i ∧ i < μ p 7 := ⟨c.1.1, by rw [← e0p]; exact c.1.2.1⟩
      refine ⟨z7, μ1, μ2, e7, hz8 ▸ e8, p, hC1.cg (fun o q1 => a8 o (by omega)), hJ2, ?_, ⟨?_, ?_, fun j q1 q2 => ?_⟩, ?_, ?_⟩
      · exact (h.rx.cg3 (fun o q1 => a7 o (by omega) (by omega)) (fun k _ => congrFun e45 k)).cg3 (fun o q1 => by by_cases q : o ≤ 47 ∧ 46 ≤ o; exact k8 o (by omega); exact F8.at (by omega) (by omega)) (fun k q1 => f8 k (by omega))
      · rw [a8 3 (by omega), h2]; have := hh.1; omega
      · rw [a8 3 (by omega), h2]; exact y2
      · rw [a8 3 (by omega), h2] at q2
        have hj1 := hh.2.2
        rw [a8 4 (by omega), a8 5 (by omega), e2p, y3 j q1 q2, y4 j q1 q2, h4 j q1 q2, h5 j q1 q2]
        refine ⟨⟨?_, ?_⟩, ?_, ?_⟩
        · exact hsN_cg hh.1 (fun j a b => by rw [e69]; exact (hj1 j a b).1.1) rfl q1 q2
        · exact hsN_cg hh.1 (fun j a b => by rw [e70]; exact (hj1 j a b).1.2) (by rw [e50]; exact h.rj.po hcs) q1 q2
        · exact hsN_in (P := fun x => 0 ≤ x ∧ x < μ p 7) hh.1 (fun j a b => (hj1 j a b).2.1) hcs q1 q2
        · exact hsN_in (P := fun x => -12 ≤ x ∧ x ≤ 12) hh.1 (fun j a b => (hj1 j a b).2.2) (h.cj.i.hd rfl hcs) q1 q2
      · exact (h.ti.cg (fun o q1 => a7 o (by omega) (by omega)) (congrFun e45 35)).cg (fun o q1 => by by_cases q : o = 62; exact k8' o (by omega); exact a8 o (by omega)) (f8 35 (by omega))
      · exact (h.fi.cg (a7 42 (by omega) (by omega)) (fun k _ => congrFun e45 k)).cg (a8 42 (by omega)) (fun k q1 => f8 k (by omega))
    · exact absurd c c8
  · subst e9
    have hK1 : RK μ1 p := h.rj.rk (fun o _ _ _ => rfl) hp (fun k _ => rfl)
    obtain ⟨_, μ2, e8, z8, rfl, F8, w8, f8, k8, k8'⟩ := s_X8_put X p i q μ1 h.cj hK1 hi hq (by rw [hh.2.1]; exact hh.1)
    rcases w8 with ⟨c8, _⟩ | ⟨c8, y1, y2⟩
    · exact absurd c8 c
    · exact ⟨z7, μ1, μ2, e7, (y1.trans hz.symm) ▸ e8, p, by rw [y2]; exact h.t⟩
theorem pr_undo (X : AX) (h : INV μ p) : PR X M_X7_undo M_X8_undo [(2, 0), (9, 0)] [(2, 45)] μ := by
  have hp := h.cj.i.at
  have hh := h.hi
  have hsz := h.cj.i.sz
  obtain ⟨_, μ1, e7, z7, rfl, F7, w7⟩ := s_X7_undo X p μ h.cj hh.1 (fun j q1 q2 => (hh.2.2 j q1 q2).2.1)
  have a7 : ∀ o : Int, ¬ o = 3 → ¬ o = p + 5 → μ1 o = μ o := fun o q1 q2 => F7.at (by omega) (by omega)
  have e45 : μ1 45 = μ 45 := a7 45 (by omega) (by omega)
  have e69 : μ1 69 = μ 69 := a7 69 (by omega) (by omega)
  obtain ⟨_, μ2, e8, z8, rfl, F8, w8, f8, k8⟩ := s_X8_undo X μ1 (by rw [e45, hh.2.1]; exact hh.1) (fun j q1 q2 => by rw [e45, hh.2.1] at q2; rw [e69, (hh.2.2 j q1 q2).1.1]; have := (hh.2.2 j q1 q2).2.1; omega)
  rcases w7 with ⟨c, hz, e9⟩ | ⟨c, hz, h2, hr⟩
  · subst e9
    rcases w8 with ⟨c8, y1, y2⟩ | ⟨c8, _⟩
    · exact ⟨z7, μ1, μ2, e7, (y1.trans hz.symm) ▸ e8, p, by rw [y2]; exact h.t⟩
    · exfalso; have := hh.2.1; omega
  · rcases w8 with ⟨c8, _⟩ | ⟨c8, y1, y2, y5, y6, y7⟩
    · exfalso; rw [e45] at c8; have := hh.2.1; omega
    · have e60 := hh.2.1
      have e70 : μ1 70 = μ 70 := a7 70 (by omega) (by omega)
      have e50 : μ1 50 = μ 50 := a7 50 (by omega) (by omega)
      rw [e45, e60] at y1 y2 y5
      have hl := hh.2.2 (μ 3 2 - 1) (by omega) (by omega)
      rw [e69, e70, hl.1.1, hl.1.2] at y5
      rw [if_pos c] at hr
      have hd : ∀ j : Int, 0 ≤ j → j < μ p 7 → -12 ≤ μ1 (p + 5) j ∧ μ1 (p + 5) j ≤ 12 := fun j q1 q2 => by
        rw [hr]
        split
        · exact hl.2.2
        · exact h.cj.i.hd rfl ⟨q1, q2⟩
      have hC1 : CJ μ1 p := CJ_hd h.cj (fun o q1 q2 => a7 o (by omega) q2) hd
      have hK1 : RK μ1 p := h.rj.rk (fun o q1 q2 q3 => a7 o (by omega) (by omega)) hp (fun k _ => congrFun e45 k)
      have e0p : μ1 p = μ p := a7 p (by omega) (by omega)
      have a8 : ∀ o : Int, o ≤ 44 → μ2 o = μ1 o := fun o q1 => F8.at (by omega) (by omega)
      have hb50 : ∀ j : Int, 0 ≤ j → j < μ p 7 → μ2 50 j = μ2 (p + 5) j := fun j q1 q2 => by
        rw [y5, a8 (p + 5) (by omega), hr, e50]
        by_cases e : j = μ 4 (μ 3 2 - 1)
        · rw [if_pos e, if_pos e]
        · rw [if_neg e, if_neg e]; exact h.rj.po ⟨q1, q2⟩
      have e2p : μ2 p = μ p := (a8 p (by omega)).trans e0p
      have hK2 : RK μ2 p := hK1.cg2 (fun o q1 => by by_cases q : o ≤ 49 ∧ 46 ≤ o; exact k8 o (by omega); exact F8.at (by omega) (by omega)) (fun k q1 => f8 k (by omega))
      have hJ2 : RJ μ2 p := hK2.of (by rw [y7, a8 p (by omega)]; exact hK1.1.2.2.1) (fun j q1 q2 => hb50 j q1 (by rw [← e2p]; exact q2)) (fun j q1 q2 => (y6 j q1 (by rw [e2p] at q2; omega)).trans (hb50 j q1 (by rw [← e2p]; exact q2)))
      refine ⟨z7, μ1, μ2, e7, (y1.trans hz.symm) ▸ e8, p, hC1.cg (fun o q1 => a8 o (by omega)), hJ2, ?_, ⟨?_, ?_, fun j q1 q2 => ?_⟩, ?_, ?_⟩
      · exact (h.rx.cg3 (fun o q1 => a7 o (by omega) (by omega)) (fun k _ => congrFun e45 k)).cg3 (fun o q1 => by by_cases q : o ≤ 47 ∧ 46 ≤ o; exact k8 o (by omega); exact F8.at (by omega) (by omega)) (fun k q1 => f8 k (by omega))
      · rw [a8 3 (by omega), h2]; have := hh.1; omega
      · rw [a8 3 (by omega), h2]; exact y2
      · rw [a8 3 (by omega), h2] at q2
        rw [a8 4 (by omega), a8 5 (by omega), e2p, F8.at (o := 69) (by omega) (by omega), F8.at (o := 70) (by omega) (by omega), e69, e70, a7 4 (by omega) (by omega), a7 5 (by omega) (by omega)]
        exact hh.2.2 j q1 (by omega)
      · exact (h.ti.cg (fun o q1 => a7 o (by omega) (by omega)) (congrFun e45 35)).cg (fun o q1 => by by_cases q : o = 62; exact F8.at (by omega) (by omega); exact a8 o (by omega)) (f8 35 (by omega))
      · exact (h.fi.cg (a7 42 (by omega) (by omega)) (fun k _ => congrFun e45 k)).cg (a8 42 (by omega)) (fun k q1 => f8 k (by omega))
theorem apN_cg {f g : Int → Int} {s n k : Int} {P : Int → Int → Prop} (h : ∀ j : Int, 0 ≤ j → j < 900 → P (f j) (g j)) (hb : ∀ j : Int, P (byt n j) (byt n j)) : ∀ j : Int, 0 ≤ j → j < 900 → P (apN f s n k j) (apN g s n k j) := by
  intro j a c
  unfold apN
  by_cases q : s ≤ j ∧ j < s + k
  · rw [if_pos q, if_pos q]; exact hb _
  · rw [if_neg q, if_neg q]; exact h j a c
theorem fdN_cg {f g : Int → Int} {s a b c d e : Int} {P : Int → Int → Prop} (h : ∀ j : Int, 0 ≤ j → j < 900 → P (f j) (g j)) (hb : ∀ n j : Int, P (byt n j) (byt n j)) : ∀ j : Int, 0 ≤ j → j < 900 → P (fdN f s a b c d e j) (fdN g s a b c d e j) := by
  unfold fdN
  exact apN_cg (apN_cg (apN_cg (apN_cg (apN_cg h (hb _)) (hb _)) (hb _)) (hb _)) (hb _)
theorem pr_feed (X : AX) (h : INV μ p) (a b c d e : Int) (ha : -2147483648 ≤ a ∧ a ≤ 2147483647) (hb : -2147483648 ≤ b ∧ b ≤ 2147483647) (hc : -2147483648 ≤ c ∧ c ≤ 2147483647) (hd : -2147483648 ≤ d ∧ d ≤ 2147483647) (he : -2147483648 ≤ e ∧ e ≤ 2147483647) :
    PR X M_X7_feed M_X8_feed [(2, 0), (0, a), (0, b), (0, c), (0, d), (0, e)] [(2, 45), (0, a), (0, b), (0, c), (0, d), (0, e)] μ := by
  have hp := h.cj.i.at
  have ht := h.ti
  obtain ⟨_, μ1, e7, z7, rfl, F7, w7⟩ := s_X7_feed X p a b c d e μ h.cj ha hb hc hd he ht.1
  have a7 : ∀ o : Int, ¬ (1 ≤ o ∧ o ≤ 2) → μ1 o = μ o := fun o q1 => F7.at (by omega) (by omega)
  have e45 : μ1 45 = μ 45 := a7 45 (by omega)
  have e62 : μ1 62 = μ 62 := a7 62 (by omega)
  obtain ⟨_, μ2, e8, z8, rfl, F8, w8, f8⟩ := s_X8_feed X a b c d e μ1 ha hb hc hd he (by rw [e45, ht.2.1]; exact ht.1)
  have a8 : ∀ o : Int, ¬ o = 45 → ¬ o = 62 → μ2 o = μ1 o := fun o q1 q2 => F8.at (by omega) (by omega)
  rw [e45, e62, ht.2.1] at w8
  have f9 : ∀ k : Int, (¬ k = 0 ∧ ¬ k = 35) → μ2 45 k = μ 45 k := fun k q => (f8 k q).trans (congrFun e45 k)
  have a9 : ∀ o : Int, ¬ (1 ≤ o ∧ o ≤ 2) → ¬ o = 45 → ¬ o = 62 → μ2 o = μ o := fun o q1 q2 q3 => (a8 o q2 q3).trans (a7 o q1)
  have hC2 : CJ μ2 p := h.cj.cg (fun o q1 => a9 o (by omega) (by omega) (by omega))
  have hJ2 : RJ μ2 p := h.rj.cg2 (fun o q1 => a9 o (by omega) (by omega) (by omega)) (fun k q1 => f9 k (by omega))
  have hX2 : RX μ2 p := h.rx.cg2 (fun o q1 => a9 o (by omega) (by omega) (by omega)) (fun k q1 => f9 k (by omega))
  have hH2 : HI μ2 p := h.hi.cg (fun o q1 => a9 o (by omega) (by omega) (by omega)) (congrFun (a9 p (by omega) (by omega) (by omega)) 7) (f9 60 (by omega))
  have hF2 : FI μ2 := h.fi.cg (a9 42 (by omega) (by omega) (by omega)) (fun k q1 => f9 k (by omega))
  rcases w7 with ⟨c1, hz, h11, h2⟩ | ⟨c1, hz, e9⟩
  · rcases w8 with ⟨c8, y1, y2, y3⟩ | ⟨c8, _⟩
    · refine ⟨z7, μ1, μ2, e7, (y1.trans hz.symm) ▸ e8, p, hC2, hJ2, hX2, hH2, ⟨?_, ?_, ?_⟩, hF2⟩
      · rw [a8 1 (by omega) (by omega), h11]; have := ht.1; omega
      · rw [a8 1 (by omega) (by omega), h11]; exact y2
      · intro j q1 q2
        rw [a8 2 (by omega) (by omega), h2, show μ2 62 j % 256 = fdN (fun j => μ 62 j % 256) (μ 1 1) a b c d e j from congrFun y3 j]
        exact fdN_cg (P := fun x y => (0 ≤ y ∧ y ≤ 255) ∧ x = y) (f := fun j => μ 62 j % 256) (g := μ 2) (fun j q3 q4 => ht.2.2 j q3 q4) (fun n j => ⟨byt_r n j, rfl⟩) j q1 q2
    · omega
  · rcases w8 with ⟨c8, _⟩ | ⟨c8, y1, y2⟩
    · omega
    · subst e9
      exact ⟨z7, μ1, μ2, e7, (y1.trans hz.symm) ▸ e8, p, by rw [y2]; exact h.t⟩
theorem pr_text (X : AX) (h : INV μ p) (n : Int) (hn : -2147483648 ≤ n ∧ n ≤ 2147483647) : PR X M_X7_text M_X8_text [(2, 0), (0, n), (9, 0)] [(2, 45), (0, n), (9, 0), (9, 0)] μ := by
  have hp := h.cj.i.at
  have ht := h.ti
  obtain ⟨_, μ1, e7, z7, rfl, F7, w7, k2, k4, kp, f0, f1, f3⟩ := s_X7_text X p (51 - p) n μ h.cj.p7 h.cj.p8 (by omega) (by omega) ht.1 (fun j q1 q2 => (ht.2.2 j q1 q2).1) hn
  have a7 : ∀ o : Int, 45 ≤ o → μ1 o = μ o := fun o q1 => F7.at (by omega) (by omega)
  have e45 : μ1 45 = μ 45 := a7 45 (by omega)
  have e62 : μ1 62 = μ 62 := a7 62 (by omega)
  have e35 : μ1 45 35 = μ 1 1 := (congrFun e45 35).trans ht.2.1
  have h35 : 0 ≤ μ1 45 35 ∧ μ1 45 35 ≤ 900 := by rw [e35]; exact ht.1
  have hb : ∀ j : Int, 0 ≤ j → j < 900 → (0 ≤ μ 2 j ∧ μ 2 j ≤ 255) ∧ μ1 62 j % 256 = μ 2 j := fun j q1 q2 => by rw [e62]; exact ht.2.2 j q1 q2
  by_cases c : 0 ≤ n ∧ n ≤ μ 1 1
  · obtain ⟨h11, hh⟩ := w7.2 c
    rcases hh with ⟨hz, hR, g7, g8, g0, g1, g3⟩ | ⟨hz, hR, g7, g8, g0, g1, g3, hP⟩
    · obtain ⟨_, μ2, e8, z8, rfl, F8, w8, k62⟩ := s_X8_text X (μ 2) p n μ1 hp h35 hb hn (fun _ q => absurd q hR)
      obtain ⟨b35, b0, hh⟩ := w8.2 (by rw [e35]; exact c)
      have a8 : ∀ o : Int, o ≤ 44 → μ2 o = μ1 o := fun o q1 => F8.at (by omega) (by omega)
      rcases hh with ⟨y1, _, y3, y4, yF, yf⟩ | ⟨_, q, _⟩
      · have a9 : ∀ o : Int, p ≤ o ∧ o ≤ p + 10 → μ2 o = μ o := fun o q1 => (a8 o (by omega)).trans (kp o q1)
        have r9 : ∀ o : Int, 46 ≤ o → ¬ (63 ≤ o ∧ o ≤ 68) → μ2 o = μ o := fun o q1 q2 => (yF.at (by omega) (by omega)).trans (a7 o (by omega))
        have f9 : ∀ k : Int, (k < 35 ∧ ¬ k = 0) ∨ 57 < k → μ2 45 k = μ 45 k := fun k q => (yf k q).trans (congrFun e45 k)
        refine ⟨z7, μ1, μ2, e7, (y1.trans hz.symm) ▸ e8, p, ⟨?_, ?_, h.cj.i.cg a9, h.cj.pg.cg a9, ?_⟩, h.rj.cg2 (fun o q1 => by by_cases q : 45 ≤ o; exact r9 o (by omega) (by omega); exact a9 o (by omega)) (fun k q1 => f9 k (by omega)), h.rx.cg2 (fun o q1 => by by_cases q : 45 ≤ o; exact r9 o (by omega) (by omega); exact a9 o (by omega)) (fun k q1 => f9 k (by omega)), ?_, ⟨?_, ?_, ?_⟩, ⟨?_, ?_⟩⟩
        · rw [a8 0 (by omega)]; exact g7
        · rw [a8 0 (by omega)]; exact g8
        · rw [a9 p (by omega)]; exact h.cj.kn
        · have e3 : μ2 3 2 = μ 3 2 := by rw [a8 3 (by omega)]; exact g3
          have h9 := h.hi
          unfold HI at h9 ⊢
          rw [e3, f9 60 (by omega), r9 69 (by omega) (by omega), r9 70 (by omega) (by omega), a8 4 (by omega), a8 5 (by omega), k4 4 (by omega), k4 5 (by omega), a9 p (by omega)]
          exact h9
        · rw [a8 1 (by omega), h11]; omega
        · rw [a8 1 (by omega), h11]; exact b35
        · rw [a8 2 (by omega), k2 2 (by omega), k62, e62]; exact ht.2.2
        · rw [a8 42 (by omega), g0]; exact y3
        · rw [a8 42 (by omega), g1]; exact y4
      · exact absurd q hR
    · obtain ⟨_, μ2, e8, z8, rfl, F8, w8, k62⟩ := s_X8_text X (μ 2) (51 - p) n μ1 (by omega) h35 hb hn (fun _ _ => hP)
      obtain ⟨b35, b0, hh⟩ := w8.2 (by rw [e35]; exact c)
      have a8 : ∀ o : Int, o ≤ 44 → μ2 o = μ1 o := fun o q1 => F8.at (by omega) (by omega)
      rcases hh with ⟨_, q, _⟩ | ⟨y1, _, y3, y4, y60, yJ, yX⟩
      · exact absurd hR q
      · refine ⟨z7, μ1, μ2, e7, (y1.trans hz.symm) ▸ e8, 51 - p, (hP.cg (fun o q1 => a8 o (by omega))).cj ?_ ?_, yJ, yX, ⟨?_, ?_, ?_⟩, ⟨?_, ?_, ?_⟩, ⟨?_, ?_⟩⟩
        · rw [a8 0 (by omega)]; exact g7
        · rw [a8 0 (by omega), g8]; omega
        · rw [a8 3 (by omega), g3]; omega
        · rw [a8 3 (by omega), g3]; exact y60
        · rw [a8 3 (by omega), g3]; intro j q1 q2; omega
        · rw [a8 1 (by omega), h11]; omega
        · rw [a8 1 (by omega), h11]; exact b35
        · rw [a8 2 (by omega), k2 2 (by omega), k62, e62]; exact ht.2.2
        · rw [a8 42 (by omega), g0]; exact y3
        · rw [a8 42 (by omega), g1]; exact y4
  · obtain ⟨hz, e9⟩ := w7.1 (by omega)
    subst e9
    obtain ⟨_, μ2, e8, z8, rfl, F8, w8, k62⟩ := s_X8_text X (μ1 2) p n μ1 hp h35 hb hn (fun q _ => absurd (by rw [e35] at q; exact q) c)
    obtain ⟨y1, y2⟩ := w8.1 (by omega)
    exact ⟨z7, μ1, μ2, e7, (y1.trans hz.symm) ▸ e8, p, by rw [y2]; exact h.t⟩
end prc
