/-! ===== The reference's whole TEXT: lines counted, what the new piece is ===== -/
section l01
variable {b : Int → Int} {n a : Int} {σ : Mu}
theorem lMet_01 (h : (lMet b n σ a).1 = 0) : (lMet b n σ a).2.2.1 0 1 = σ 0 1 := by
  unfold lMet at h ⊢
  by_cases h1 : (nW b n 1 12 a).1 = 0
  · rw [if_neg (fun q => q h1)] at h ⊢
    by_cases h2 : dgA b n (nW b n 1 12 a).2.2.2
    · rw [if_neg (fun q => q h2)] at h ⊢
      by_cases h3 : nval b n (nW b n 1 12 a).2.2.2 = 2 ∨ nval b n (nW b n 1 12 a).2.2.2 = 4 ∨ nval b n (nW b n 1 12 a).2.2.2 = 8
      · rw [if_neg (fun q => q h3)]
        rfl
      · rw [if_pos h3] at h; exact absurd (show (2 : Int) = 0 from h) (by omega)
    · rw [if_pos h2] at h; exact absurd (show (1 : Int) = 0 from h) (by omega)
  · rw [if_pos h1] at h; exact absurd h h1
theorem lKne_01 (h : (lKne b n σ a).1 = 0) : (lKne b n σ a).2.2.1 0 1 = σ 0 1 := by
  unfold lKne at h ⊢
  by_cases h1 : (nW b n 4 24 a).1 = 0
  · rw [if_neg (fun q => q h1)]
    rfl
  · rw [if_pos h1] at h; exact absurd h h1
theorem lWid_01 (h : (lWid b n σ a).1 = 0) : (lWid b n σ a).2.2.1 0 1 = σ 0 1 := by
  unfold lWid at h ⊢
  by_cases h1 : (nK b n a).1 = 0
  · rw [if_neg (fun q => q h1)] at h ⊢
    by_cases h2 : σ 8 (bok (nK b n a).2.2.1) = 0
    · rw [if_neg (fun q => q h2)] at h ⊢
      by_cases h3 : (nW b n 4 40 (nK b n a).2.2.2).1 = 0
      · rw [if_neg (fun q => q h3)]
        rfl
      · rw [if_pos h3] at h; exact absurd h h3
    · rw [if_pos h2] at h; exact absurd (show (3 : Int) = 0 from h) (by omega)
  · rw [if_pos h1] at h; exact absurd h h1
theorem lEle_01 {so : Int} (h : (lEle b n σ so a).1 = 0) : (lEle b n σ so a).2.2.1 0 1 = σ 0 1 := by
  unfold lEle at h ⊢
  by_cases h1 : (nK b n a).1 = 0
  · rw [if_neg (fun q => q h1)] at h ⊢
    by_cases h2 : tS σ % mlS σ + lok (nK b n a).2.2.1 ≤ mlS σ
    · rw [if_neg (fun q => q h2)] at h ⊢
      by_cases h3 : so = 0
      · rw [if_pos h3]; rfl
      · rw [if_neg h3] at h ⊢
        by_cases h4 : (nP b n (nK b n a).2.2.2).1 = 0
        · rw [if_neg (fun q => q h4)]; rfl
        · rw [if_pos h4] at h; exact absurd h h4
    · rw [if_pos h2] at h; exact absurd (show (5 : Int) = 0 from h) (by omega)
  · rw [if_pos h1] at h; exact absurd h h1
theorem spL_01 : ∀ (m : Nat) (σ1 : Mu) (k tg a : Int), (spL b n m σ1 k tg a).1 = 0 → (spL b n m σ1 k tg a).2.2.2.2.1 0 1 = σ1 0 1 := by
  intro m
  induction m with
  | zero => intro σ1 k tg a _; rfl
  | succ m ih =>
    intro σ1 k tg a hz
    by_cases hc : k = 0 ∨ (k ≤ 6 ∧ dgA b n a)
    · by_cases hw : (spW b n σ1 k tg a).1 = 0
      · rw [spL_go hc hw] at hz ⊢
        rw [ih _ _ _ _ hz, am_up_o (by omega)]
      · rw [spL_bad hc hw] at hz; exact absurd hz hw
    · rw [spL_end hc]
theorem lSpl_01 (h : (lSpl b n σ a).1 = 0) : (lSpl b n σ a).2.2.1 0 1 = σ 0 1 := by
  unfold lSpl at h ⊢
  by_cases h1 : (spL b n 8 σ 0 0 a).1 = 0
  · rw [if_neg (fun q => q h1)] at h ⊢
    by_cases h2 : (spL b n 8 σ 0 0 a).2.2.2.1 < σ 0 2 ∧ see b n (sk b n (spL b n 8 σ 0 0 a).2.2.2.2.2) = 59
    · rw [if_pos h2] at h; exact absurd (show (5 : Int) = 0 from h) (by omega)
    · rw [if_neg h2]
      exact spL_01 8 σ 0 0 a h1
  · rw [if_pos h1] at h; exact absurd h h1
theorem lBod_01 {w : Int} (h : (lBod b n σ w a).1 = 0) : (lBod b n σ w a).2.2.1 0 1 = σ 0 1 := by
  unfold lBod at h ⊢
  by_cases h0 : w = 0
  · rw [if_pos h0] at h ⊢; exact lMet_01 h
  · rw [if_neg h0] at h ⊢
    by_cases h1 : w = 1
    · rw [if_pos h1] at h ⊢; exact lSpl_01 h
    · rw [if_neg h1] at h ⊢
      by_cases h2 : w = 2
      · rw [if_pos h2] at h ⊢; exact lKne_01 h
      · rw [if_neg h2] at h ⊢
        by_cases h3 : w = 3
        · rw [if_pos h3] at h ⊢; exact lWid_01 h
        · rw [if_neg h3] at h ⊢; exact lEle_01 h
theorem lEnd_01 {r : Lres} (hr : r.1 = 0 → r.2.2.1 0 1 = σ 0 1) (h : (lEnd b n r).1 = 0) : (lEnd b n r).2.2.1 0 1 = σ 0 1 := by
  by_cases h1 : r.1 = 0
  · by_cases h2 : see b n (sk b n r.2.2.2) = 59
    · rw [lEnd_0 h1 h2]; exact hr h1
    · rw [lEnd_1 h1 h2] at h; exact absurd (show (1 : Int) = 0 from h) (by omega)
  · rw [lEnd_b h1] at h; exact absurd h h1
theorem lnF_01 (h : (lnF b n σ a).1 = 0) : (lnF b n σ a).2.2.1 0 1 = σ 0 1 := by
  unfold lnF at h ⊢
  rw [lnW_ln0] at h ⊢
  refine lEnd_01 (fun h0 => ?_) h
  unfold ln0 at h0 ⊢
  by_cases c1 : wdC b (sk b n a) (we b n (sk b n a)) = -1 ∨ tooL σ (wdC b (sk b n a) (we b n (sk b n a)))
  · rw [if_pos c1] at h0; exact absurd (show (1 : Int) = 0 from h0) (by omega)
  · rw [if_neg c1] at h0 ⊢
    by_cases c2 : wdC b (sk b n a) (we b n (sk b n a)) ≤ 2 ∧ ¬ tldS σ (wdC b (sk b n a) (we b n (sk b n a))) = 0
    · rw [if_pos c2] at h0; exact absurd (show (3 : Int) = 0 from h0) (by omega)
    · rw [if_neg c2] at h0 ⊢
      by_cases c3 : 4 ≤ wdC b (sk b n a) (we b n (sk b n a)) ∧ 64 ≤ σ 0 0
      · rw [if_pos c3] at h0; exact absurd (show (4 : Int) = 0 from h0) (by omega)
      · rw [if_neg c3] at h0 ⊢
        exact lBod_01 h0
/-- the place behind a line; the end, where the line is bad -/
def nxT (b : Int → Int) (n : Int) (σ : Mu) (t : Int) : Int := if (lnF b n σ t).1 = 0 then (lnF b n σ t).2.2.2 else n
theorem nxT_g {t : Int} (h : t < n) : t < nxT b n σ t ∧ nxT b n σ t ≤ n := by
  unfold nxT
  by_cases e : (lnF b n σ t).1 = 0
  · rw [if_pos e]; exact lnF_g (by omega) e
  · rw [if_neg e]; omega
def nxS (b : Int → Int) (n : Int) (σ : Mu) (t : Int) : Mu := am_up (lnF b n σ t).2.2.1 0 1 ((lnF b n σ t).2.2.1 0 1 + 1)
end l01
section txl
variable {b : Int → Int} {n t : Int} {σ μ μ1 : Mu} {R : Lres}
theorem RPS_lnn {v : Int} (h : RPS σ μ) (hv : v = σ 0 1 + 1) : RPS (am_up σ 0 1 v) μ := by
  subst hv
  have ht : tS (am_up σ 0 1 (σ 0 1 + 1)) = tS σ := by
    unfold tS
    rw [am_up_nk (by omega), am_up_o (by omega), am_up_o (by omega)]
  unfold RPS
  rw [ht, am_up_nk (by omega), am_up_nk (by omega), am_up_nk (by omega), am_up_nk (by omega), am_up_nk (by omega), am_up_nk (by omega), am_up_nk (by omega), am_up_o (by omega), am_up_o (by omega), am_up_o (by omega), am_up_o (by omega), am_up_o (by omega), am_up_o (by omega)]
  exact ⟨SOK_ln h.ok, h.2⟩
/-- what stands where a line begins, or where one was bad -/
def TXS (b : Int → Int) (n : Int) (R : Lres) (σ : Mu) (t l : Int) (μ : Mu) : Prop :=
  (μ 45 43 = 0 ∧ RPS σ μ ∧ TK b n (sk b n t) μ ∧ (μ 45 41 = 0 ∧ μ 45 42 = -1) ∧ σ 0 1 = l ∧ rs3 (rdN b n (n - t).toNat σ t) R) ∨ (μ 45 43 = 1 ∧ ¬ R.1 = 0 ∧ μ 45 41 = R.1 ∧ μ 45 42 = R.2.1)
theorem TXS_go {l : Int} (hz : tkL b n (lnF b n σ t) μ μ1) (hs : sk b n t < n) (ht : t ≤ n) (h41 : μ 45 41 = 0 ∧ μ 45 42 = -1) (hl : σ 0 1 = l) (hr : rs3 (rdN b n (n - t).toNat σ t) R) : TXS b n R (nxS b n σ t) (nxT b n σ t) (l + 1) μ1 := by
  have h1 := sk_r b n t ht
  have h8 : (n - t).toNat = (n - (t + 1)).toNat + 1 := by omega
  rcases hz with ⟨e, hP, h43, hK, hat, a1, a2⟩ | ⟨e, h43, a1, a2⟩
  · left
    have e9 : nxT b n σ t = (lnF b n σ t).2.2.2 := if_pos e
    have e1 := lnF_01 e
    have eg := lnF_g ht e
    rw [e9]
    refine ⟨h43, RPS_lnn hP rfl, hK, ⟨a1.trans h41.1, a2.trans h41.2⟩, ?_, ?_⟩
    · show am_up _ 0 1 _ 0 1 = _
      rw [am_up_at]; omega
    · rw [h8, rdN_go hs e] at hr
      exact rs3_tr (rdN_more _ _ _ _ eg.2 (by omega) (by omega)) hr
  · right
    rw [h8, rdN_bad hs e] at hr
    exact ⟨h43, fun q => e (hr.1.trans q), a1.trans hr.1, a2.trans hr.2.1⟩
theorem TXS_end (ht : 0 ≤ t ∧ t ≤ n) (hbb : BB b n) (hK : TK b n (sk b n t) μ) (h39 : μ 45 39 = 0) (hr : rs3 (rdN b n (n - t).toNat σ t) R) : R.1 = 0 ∧ R.2.2.1 = σ := by
  have h1 := sk_r b n t ht.2
  have h2 : n ≤ sk b n t := by
    rcases hK.2 with q | q | q | q
    · have := q.1
      unfold see at this
      by_cases e : sk b n t < n
      · rw [if_pos e] at this
        have := hbb.2 (sk b n t) (by omega) e
        omega
      · omega
    · omega
    · omega
    · rcases q.2.1 with e | e <;> omega
  rw [rdN_end (Or.inr h2)] at hr
  exact ⟨hr.1.symm, hr.2.2.symm⟩
theorem S0_ok : SOK S0 := by
  unfold SOK
  refine ⟨⟨by decide, by decide, by decide, by decide, by decide, by decide, by decide, by decide⟩, fun j a c => ?_, fun k a c => ?_, fun k a c => ?_, fun q => ?_, fun j a c => ?_⟩
  · exact absurd c (by show ¬ j < 0; omega)
  · rcases (show k = 0 ∨ k = 1 ∨ k = 2 ∨ k = 3 by omega) with e | e | e | e <;> subst e <;> decide
  · exact absurd c (by show ¬ k < 0; omega)
  · exact absurd q (by decide)
  · exact absurd c (by show ¬ j + 1 < 0; omega)
theorem RPS_0 (h : μ 45 44 = 4 ∧ μ 45 45 = 4 ∧ μ 45 47 = 0 ∧ μ 45 48 = 9 ∧ μ 45 50 = 0 ∧ μ 45 54 = 0 ∧ μ 45 55 = 0 ∧ μ 45 57 = 0) (hw : μ 64 0 = 24 ∧ μ 64 1 = 16 ∧ μ 64 2 = 12 ∧ μ 64 3 = 9) (h8 : ∀ k : Int, 0 ≤ k → k < 4 → μ 68 k = 0) : RPS S0 μ := by
  refine ⟨S0_ok, h, fun k a c => ?_, fun k a c => ⟨?_, h8 k a c⟩, fun j a c => ?_⟩
  · exact absurd c (by show ¬ k < 0; omega)
  · rcases (show k = 0 ∨ k = 1 ∨ k = 2 ∨ k = 3 by omega) with e | e | e | e <;> subst e
    · exact hw.1
    · exact hw.2.1
    · exact hw.2.2.1
    · exact hw.2.2.2
  · exact absurd c (by show ¬ j < 0; omega)
end txl
section cpg
variable {σ μ : Mu} {p : Int}
theorem CPG.ok (h : CPG σ p μ) : SOK σ := h.1
theorem CPG.f7 (h : CPG σ p μ) : μ p 7 = σ 0 0 := h.2.1.1
theorem CPG.f0 (h : CPG σ p μ) : μ p 0 = σ 0 1 := h.2.1.2.1
theorem CPG.f1 (h : CPG σ p μ) : μ p 1 = σ 0 2 := h.2.1.2.2.1
theorem CPG.f2 (h : CPG σ p μ) : μ p 2 = σ 0 3 := h.2.1.2.2.2.1
theorem CPG.f3 (h : CPG σ p μ) : μ p 3 = σ 0 4 := h.2.1.2.2.2.2
theorem CPG.rw {j : Int} (h : CPG σ p μ) (hj : 0 ≤ j ∧ j < σ 0 0) : μ (p + 3) j = σ 1 j ∧ μ (p + 4) j = σ 2 j ∧ μ (p + 5) j = σ 3 j ∧ μ (p + 6) j = σ 4 j ∧ μ (p + 7) j = σ 5 j := h.2.2.1 j hj.1 hj.2
theorem CPG.wd {k : Int} (h : CPG σ p μ) (hk : 0 ≤ k ∧ k < 4) : μ (p + 2) k = σ 7 k := h.2.2.2.1 k hk.1 hk.2
theorem CPG.pi (h : CPG σ p μ) : PI μ p := h.2.2.2.2.2.1
theorem CPG.pg (h : CPG σ p μ) : PG μ p := h.2.2.2.2.2.2.1
theorem CPG.hl (h : CPG σ p μ) : prl (μ (p + 9)) (μ (p + 10)) (μ p 14) = seg (μ p 7) (fun j => runl μ p j 0) 0 := h.2.2.2.2.2.2.2
theorem CPG.lays (h : CPG σ p μ) : LAYS μ p := by
  have hs := h.ok
  have h7 := h.f7
  refine ⟨fun q => ?_, fun j a c => ?_⟩
  · have h1 := h.rw (j := 0) ⟨by omega, by omega⟩
    have h2 := hs.2.2.2.2.1 (by omega)
    exact ⟨h1.2.2.2.1.trans h2.1, h1.2.2.2.2.trans h2.2⟩
  · have h1 := h.rw (j := j) ⟨by omega, by omega⟩
    have h2 := h.rw (j := j + 1) ⟨by omega, by omega⟩
    have h3 := hs.2.2.2.2.2 j a (by omega)
    have h4 := bok_r (σ 1 j)
    rw [h1.1, h1.2.2.2.1, h1.2.2.2.2, h2.2.2.2.1, h2.2.2.2.2, h.wd ⟨h4.1, by omega⟩]
    exact h3
theorem CPG.rx (h : CPG σ p μ) (h11 : μ 45 11 = σ 0 1) (h4 : μ 45 4 = σ 0 5) (h47 : ∀ k : Int, 0 ≤ k → k < 4 → μ 47 k = σ 7 k) (h46 : ∀ k : Int, 0 ≤ k → k < σ 0 5 → μ 46 k = σ 6 k) : RX μ p := by
  refine ⟨⟨h11.trans h.f0.symm, fun k a c => (h47 k a c).trans (h.wd ⟨a, c⟩).symm⟩, ?_⟩
  have h5 := h.ok.1.2.2.2.2.2.1
  rcases h.2.2.2.2.1 with ⟨q1, q2, q3⟩ | ⟨q1, q2, q3⟩
  · left; exact ⟨h4.trans q1, q2, q3⟩
  · right; exact ⟨by omega, by omega, fun k a c => (h46 k a (by omega)).trans (q3 k a (by omega)).symm⟩
theorem CPG.cj (h : CPG σ p μ) (h7 : μ 0 7 = p) (h8 : μ 0 8 = 51 - p) : CJ μ p := ⟨h7, h8, h.pi, h.pg, by rw [h.f3]; exact h.ok.1.2.2.2.2.1⟩
end cpg
/-- a TEXT that is bad leaves the piece -/
def TXK (μ μ1 : Mu) : Prop := Fr 45 45 63 68 μ1 μ ∧ ∀ k : Int, (k < 35 ∧ ¬ k = 0) ∨ 57 < k → μ1 45 k = μ 45 k
/-- a boolean's place takes any number: what stands there then -/
def zbi (v : Int) : Int := (vp_nar .boolean (Int32.ofInt v)).toInt
theorem zbi_0 : zbi 0 = 0 := by decide
theorem zbi_1 : zbi 1 = 1 := by decide
theorem zbi_01 {v : Int} (h : v = 0 ∨ v = 1) : zbi v = v := by
  rcases h with rfl | rfl
  · exact zbi_0
  · exact zbi_1
theorem e_zastM {G : AG} {M : AMeth} {pc : Nat} {ls st : List AV} {μ μ' : Mu} {r : Option AV} {o n : Nat} {z i v : Int} (hd : decode M.2.1 pc = .ok (.bastore, 1)) (ho : z = (o : Int)) (hs : (gS G)[o]? = some (21, n)) (hn : n < 2147483648) (h0 : 0 ≤ i) (h1 : i < n) (kk : Ev G M (pc + 1) ls st (am_up μ z i (zbi v)) r μ') : Ev G M pc ls ((0, v) :: (0, i) :: (2, z) :: st) μ r μ' := by
  subst ho
  intro p e s m args below meth c H locs lsA hI
  obtain ⟨hi, hj⟩ := am_clamp h0 h1 hn
  rw [List.map_cons, List.map_cons, List.map_cons, am_ref_pos (by omega)]
  refine va_zast hI.1.1 hI.1.2.1 hI.2.1 hI.2.2.1 hI.2.2.2.1 hI.2.2.2.2.1 o 1 (am_pic_at hs (am_el_row hs (by decide))) rfl hi hd (fun H1 locs1 hP1 hD1 hS1 => ?_)
  have hnar : vp_nar .boolean (Int32.ofInt v) = Int32.ofInt (zbi v) := by rw [zbi, Int32.ofInt_toInt]
  rw [hnar, am_row_set (t := 1) hs (by decide) hj] at hP1 hD1
  exact kk p e s m args below meth c H1 locs1 lsA ⟨hI.1, hI.2.1, hP1, hD1, hS1, hI.2.2.2.2.2⟩
theorem w_zastM {G : AG} {M : AMeth} {pc : Nat} {ls st : List AV} {μ : Mu} {Q : Option AV → Mu → Prop} {o n : Nat} {z i v : Int} (hd : decode M.2.1 pc = .ok (.bastore, 1)) (ho : z = (o : Int)) (hs : (gS G)[o]? = some (21, n)) (hn : n < 2147483648) (h0 : 0 ≤ i) (h1 : i < n) (kk : Wp G M (pc + 1) ls st (am_up μ z i (zbi v)) Q) : Wp G M pc ls ((0, v) :: (0, i) :: (2, z) :: st) μ Q := Wp.lift (fun _ _ hq9 => e_zastM hd ho hs hn h0 h1 hq9) kk
theorem TK.lt {b : Int → Int} {n s : Int} {μ : Mu} (h : TK b n s μ) (e : ¬ μ 45 39 = 0) : s < n := by
  by_cases c : s < n
  · exact c
  · have hs : see b n s = -1 := if_neg c
    rcases h.2 with q | q | q | q <;> omega
