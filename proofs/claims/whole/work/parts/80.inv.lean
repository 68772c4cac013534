/-! ===== The law's walk: what holds between two calls; answers that depend on the piece alone ===== -/
/-- the two histories of positions put -/
def HI (μ : Mu) (p : Int) : Prop := (0 ≤ μ 3 2 ∧ μ 3 2 ≤ 20) ∧ μ 45 60 = μ 3 2 ∧ ∀ j : Int, 0 ≤ j → j < μ 3 2 → (μ 69 j = μ 4 j ∧ μ 70 j = μ 5 j) ∧ (0 ≤ μ 4 j ∧ μ 4 j < μ p 7) ∧ (-12 ≤ μ 5 j ∧ μ 5 j ≤ 12)
/-- the two tapes -/
def TI (μ : Mu) : Prop := (0 ≤ μ 1 1 ∧ μ 1 1 ≤ 900) ∧ μ 45 35 = μ 1 1 ∧ ∀ j : Int, 0 ≤ j → j < 900 → (0 ≤ μ 2 j ∧ μ 2 j ≤ 255) ∧ μ 62 j % 256 = μ 2 j
def FI (μ : Mu) : Prop := μ 45 41 = μ 42 0 ∧ μ 45 42 = μ 42 1
def INV (μ : Mu) (p : Int) : Prop := CJ μ p ∧ RJ μ p ∧ RX μ p ∧ HI μ p ∧ TI μ ∧ FI μ
def PR (X : AX) (M7 M8 : AMeth) (l7 l8 : List AV) (μ : Mu) : Prop := ∃ z μ1 μ2, Ev (GG X) M7 0 l7 [] μ (some (0, z)) μ1 ∧ Ev (GG X) M8 0 l8 [] μ1 (some (0, z)) μ2 ∧ ∃ p, INV μ2 p
section inv
variable {μ μ1 : Mu} {p : Int}
theorem INV.cj (h : INV μ p) : CJ μ p := h.1
theorem INV.rj (h : INV μ p) : RJ μ p := h.2.1
theorem INV.rx (h : INV μ p) : RX μ p := h.2.2.1
theorem INV.hi (h : INV μ p) : HI μ p := h.2.2.2.1
theorem INV.ti (h : INV μ p) : TI μ := h.2.2.2.2.1
theorem INV.fi (h : INV μ p) : FI μ := h.2.2.2.2.2
theorem HI.cg (h : HI μ p) (e : ∀ o : Int, (3 ≤ o ∧ o ≤ 5) ∨ o = 69 ∨ o = 70 → μ1 o = μ o) (e7 : μ1 p 7 = μ p 7) (f : μ1 45 60 = μ 45 60) : HI μ1 p := by
  unfold HI at h ⊢
  rw [e 3 (by omega), e 4 (by omega), e 5 (by omega), e 69 (by omega), e 70 (by omega), e7, f]
  exact h
theorem TI.cg (h : TI μ) (e : ∀ o : Int, (1 ≤ o ∧ o ≤ 2) ∨ o = 62 → μ1 o = μ o) (f : μ1 45 35 = μ 45 35) : TI μ1 := by
  unfold TI at h ⊢
  rw [e 1 (by omega), e 2 (by omega), e 62 (by omega), f]
  exact h
theorem FI.cg (h : FI μ) (e : μ1 42 = μ 42) (f : ∀ k : Int, k = 41 ∨ k = 42 → μ1 45 k = μ 45 k) : FI μ1 := by
  unfold FI at h ⊢
  rw [e, f 41 (by omega), f 42 (by omega)]
  exact h
/-- behind a call of the class that writes its own rows alone -/
theorem INV.a (h : INV μ p) (F : Fr 6 19 1 0 μ1 μ) : INV μ1 p := by
  have hp := h.cj.i.at
  have e : ∀ o : Int, ¬ (6 ≤ o ∧ o ≤ 19) → μ1 o = μ o := fun o h1 => F.at (by omega) (by omega)
  have e45 : μ1 45 = μ 45 := e 45 (by omega)
  refine ⟨h.cj.cg (fun o h1 => e o (by omega)), h.rj.cg2 (fun o h1 => e o (by omega)) (fun k _ => congrFun e45 k), h.rx.cg2 (fun o h1 => e o (by omega)) (fun k _ => congrFun e45 k), h.hi.cg (fun o h1 => e o (by omega)) (congrFun (e p (by omega)) 7) (congrFun e45 60), h.ti.cg (fun o h1 => e o (by omega)) (congrFun e45 35), h.fi.cg (e 42 (by omega)) (fun k _ => congrFun e45 k)⟩
/-- behind a call of the reference -/
theorem INV.b (h : INV μ p) (hJ : RJ μ1 p) (e : ∀ o : Int, o ≤ 44 ∨ o = 46 ∨ o = 47 ∨ o = 62 ∨ o = 69 ∨ o = 70 → μ1 o = μ o) (f : ∀ k : Int, k = 4 ∨ k = 11 ∨ k = 35 ∨ k = 41 ∨ k = 42 ∨ k = 60 → μ1 45 k = μ 45 k) : INV μ1 p := by
  have hp := h.cj.i.at
  refine ⟨h.cj.cg (fun o h1 => e o (by omega)), hJ, h.rx.cg2 (fun o h1 => e o (by omega)) (fun k _ => f k (by omega)), h.hi.cg (fun o h1 => e o (by omega)) (congrFun (e p (by omega)) 7) (f 60 (by omega)), h.ti.cg (fun o h1 => e o (by omega)) (f 35 (by omega)), h.fi.cg (e 42 (by omega)) (fun k _ => f k (by omega))⟩
theorem Fr.w619 {a b : Int} (F : Fr a b 1 0 μ1 μ) (h : 6 ≤ a ∧ b ≤ 19) : Fr 6 19 1 0 μ1 μ := F.wd (by omega) (by omega)
theorem Fr.p619 {a b : Int} (F : Fr a b 1 0 μ1 μ) (h : 6 ≤ a ∧ b ≤ 19) (hp : p = 20 ∨ p = 31) : ∀ o : Int, p ≤ o ∧ o ≤ p + 10 → μ1 o = μ o := fun o h1 => F.at (by omega) (by omega)
end inv
section cgs
variable {μ μ1 : Mu} {p : Int}
theorem ddF_cg {hf : Int → Int} {kn : Int} (e : ∀ o : Int, p ≤ o ∧ o ≤ p + 10 → μ1 o = μ o) : ddF μ1 p hf kn = ddF μ p hf kn := by
  funext g
  unfold ddF
  rw [e (p + 9) (by omega), e (p + 10) (by omega)]
  exact gdtF_cg e (fun _ _ _ => rfl)
theorem ddt_cg {kn : Int} (e : ∀ o : Int, p ≤ o ∧ o ≤ p + 10 → μ1 o = μ o) : ddt μ1 p (p + 5) kn = ddt μ p (p + 5) kn := by
  funext g
  unfold ddt gdt
  rw [e (p + 9) (by omega), e (p + 10) (by omega), e (p + 5) (by omega)]
  exact gdtF_cg e (fun _ _ _ => rfl)
theorem ddS_cg {t : Int} (e : ∀ o : Int, p ≤ o ∧ o ≤ p + 10 → μ1 o = μ o) : ddS μ1 p t = ddS μ p t := by
  unfold ddS
  rw [ddF_cg e, e (p + 5) (by omega), e p (by omega)]
theorem ddM_cg {g : Int} (e : ∀ o : Int, p ≤ o ∧ o ≤ p + 10 → μ1 o = μ o) : ddM μ1 p g = ddM μ p g := by
  unfold ddM
  rw [ddF_cg e, e (p + 5) (by omega), e p (by omega)]
theorem ddP_cg {i q : Int} (e : ∀ o : Int, p ≤ o ∧ o ≤ p + 10 → μ1 o = μ o) : ddP μ1 p i q = ddP μ p i q := by
  unfold ddP
  rw [ddF_cg e, e (p + 5) (by omega), e p (by omega), e (p + 8) (by omega)]
theorem wor_cg {t : Int} (e : ∀ o : Int, p ≤ o ∧ o ≤ p + 10 → μ1 o = μ o) : wor μ1 p t = wor μ p t := by
  unfold wor
  rw [ddS_cg e, e p (by omega)]
theorem shR_cg {z : Int} (e : ∀ o : Int, p ≤ o ∧ o ≤ p + 10 → μ1 o = μ o) : shR μ1 p z ↔ shR μ p z := by
  unfold shR
  simp only [shB_cg e, wor_cg e]
theorem wiR_cg {i z : Int} (e : ∀ o : Int, p ≤ o ∧ o ≤ p + 10 → μ1 o = μ o) : wiR μ1 p i z ↔ wiR μ p i z := by
  unfold wiR wiQ wok wug
  simp only [ddP_cg e, e (p + 5) (show p ≤ p + 5 ∧ p + 5 ≤ p + 10 by omega)]
theorem bmzf_cg (e : ∀ o : Int, p ≤ o ∧ o ≤ p + 10 → μ1 o = μ o) : bmz μ1 p = bmz μ p := funext fun i => bmz_cg e i
theorem bmA_cg {i w : Int} (e : ∀ o : Int, p ≤ o ∧ o ≤ p + 10 → μ1 o = μ o) : bmA μ1 p i w = bmA μ p i w := by
  unfold bmA stb
  simp only [bml_cg e, bmr_cg e, bmz_cg e, sgl_cg e]
theorem ste_cg {k i : Int} (e : ∀ o : Int, p ≤ o ∧ o ≤ p + 10 → μ1 o = μ o) : ste μ1 p k i = ste μ p k i := by
  unfold ste
  simp only [bmr_cg e, e p (show p ≤ p ∧ p ≤ p + 10 by omega)]
theorem stP_cg {k f m n w z : Int} (e : ∀ o : Int, p ≤ o ∧ o ≤ p + 10 → μ1 o = μ o) : stP μ1 p k f m n w z ↔ stP μ p k f m n w z := by
  unfold stP
  simp only [bmr_cg e, bml_cg e, stN_cg e, ste_cg e, e (p + 7) (show p ≤ p + 7 ∧ p + 7 ≤ p + 10 by omega)]
theorem uglGf_cg (e : ∀ o : Int, p ≤ o ∧ o ≤ p + 10 → μ1 o = μ o) : uglG μ1 p = uglG μ p := funext fun f => funext fun m => uglG_cg e
theorem sglA_cg {i w : Int} (e : ∀ o : Int, p ≤ o ∧ o ≤ p + 10 → μ1 o = μ o) : sglA μ1 p i w = sglA μ p i w := by
  unfold sglA
  rw [e (p + 5) (by omega), bmz_cg e]
theorem cntC_cg {w : Int} (e : ∀ o : Int, p ≤ o ∧ o ≤ p + 10 → μ1 o = μ o) (e3 : μ1 3 = μ 3) (e1 : μ1 1 = μ 1) : cntC μ1 p w = cntC μ p w := by
  unfold cntC
  rw [e p (by omega), e (p + 4) (by omega), e (p + 2) (by omega), mof_cg e, e3, e1]
theorem segf_cg {n : Int} (e : ∀ o : Int, p ≤ o ∧ o ≤ p + 10 → μ1 o = μ o) : (fun j => runl μ1 p j n) = fun j => runl μ p j n := funext fun j => runl_cg e
theorem stP_u {k f m n w z z' : Int} (h : stP μ p k f m n w z) (h' : stP μ p k f m n w z') : z = z' := by
  have hlt : ∀ a b : Int, 0 ≤ a → a < b → (k ≤ bmr μ p (f + a) ∧ bml μ p (f + a) < k) → stN μ p k f a < stN μ p k f b := by
    intro a b h1 h2 h3
    have h4 := stN_s (μ := μ) (p := p) (k := k) (f := f) h1
    rw [if_pos h3] at h4
    have h5 := stN_mm (μ := μ) (p := p) (k := k) (f := f) (a := a + 1) (b := b) (by omega) (by omega)
    omega
  rcases h with ⟨j, a1, a2, a3, a4⟩ | ⟨a1, a2⟩
  · rcases h' with ⟨j', b1, b2, b3, b4⟩ | ⟨b1, b2⟩
    · have : j = j' := by
        by_cases q : j < j'
        · have := hlt j j' a1.1 q a2; omega
        · by_cases q2 : j' < j
          · have := hlt j' j b1.1 q2 b2; omega
          · omega
      rw [a4, b4, this]
    · exfalso
      have := hlt j m a1.1 a1.2 a2; omega
  · rcases h' with ⟨j', b1, b2, b3, b4⟩ | ⟨b1, b2⟩
    · exfalso
      have := hlt j' m b1.1 b1.2 b2; omega
    · rw [a2, b2]
end cgs
section rnks
variable {D : GDt}
theorem countP_lt {l : List Int} {a b : Int} (h : a < b) (hm : a ∈ l) : l.countP (fun x => decide (x < a)) < l.countP (fun x => decide (x < b)) := by
  induction l with
  | nil => cases hm
  | cons x xs ih =>
    have hle : ∀ ys : List Int, ys.countP (fun x => decide (x < a)) ≤ ys.countP (fun x => decide (x < b)) := fun ys => List.countP_mono_left (fun y _ hy => by simp only [decide_eq_true_eq] at hy ⊢; omega)
    rw [List.countP_cons, List.countP_cons]
    rcases List.mem_cons.mp hm with e | e
    · subst e
      have := hle xs
      simp only [decide_eq_true_eq]
      rw [if_neg (by omega), if_pos h]
      omega
    · have := ih e
      simp only [decide_eq_true_eq]
      by_cases q : x < a
      · rw [if_pos q, if_pos (by omega)]; omega
      · rw [if_neg q]; split <;> omega
end rnks
theorem rk_inj {D : GDt} {s l s' l' : Int} (h : GOK D) (ha : alw D s l) (hi : inS s l) (ha' : alw D s' l') (hi' : inS s' l') (e : rkD D (key D s l) = rkD D (key D s' l')) : s = s' ∧ l = l' := by
  refine key_inj h ha hi ha' hi' ?_
  have m1 : key D s l ∈ kl D := (kl_mem h _).mpr ⟨s, l, hi, ha, rfl⟩
  have m2 : key D s' l' ∈ kl D := (kl_mem h _).mpr ⟨s', l', hi', ha', rfl⟩
  unfold rkD at e
  by_cases q : key D s l < key D s' l'
  · have := countP_lt q m1; omega
  · by_cases q2 : key D s' l' < key D s l
    · have := countP_lt q2 m2; omega
    · omega
theorem rnkP_u {D : GDt} {P : Prop} {k w z z' : Int} (hD : P → GOK D) (h : rnkP D P k w z) (h' : rnkP D P k w z') : z = z' := by
  rcases h with ⟨a, s, l, i1, i2, i3, i4⟩ | ⟨a, a2⟩
  · rcases h' with ⟨b, s', l', j1, j2, j3, j4⟩ | ⟨b, b2⟩
    · have := rk_inj (hD a.1) i2 i1 j2 j1 (i3.trans j3.symm)
      rw [i4, j4, this.1, this.2]
    · exact absurd a b
  · rcases h' with ⟨b, s', l', j1, j2, j3, j4⟩ | ⟨b, b2⟩
    · exact absurd b a
    · rw [a2, b2]
