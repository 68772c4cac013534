/-! ===== The class's own state; what would be ===== -/
def CJ (μ : Mu) (p : Int) : Prop := μ 0 7 = p ∧ μ 0 8 = 51 - p ∧ PI μ p ∧ PG μ p ∧ (4 ≤ μ p 3 ∧ μ p 3 ≤ 24)
section CJs
variable {μ μ1 : Mu} {p g : Int}
theorem CJ.p7 (h : CJ μ p) : μ 0 7 = p := h.1
theorem CJ.p8 (h : CJ μ p) : μ 0 8 = (51 - p) := h.2.1
theorem CJ.i (h : CJ μ p) : PI μ p := h.2.2.1
theorem CJ.pg (h : CJ μ p) : PG μ p := h.2.2.2.1
theorem CJ.kn (h : CJ μ p) : 4 ≤ μ p 3 ∧ μ p 3 ≤ 24 := h.2.2.2.2
theorem CJ.cg (h : CJ μ p) (e : ∀ o : Int, (0 ≤ o ∧ o ≤ 0) ∨ (p ≤ o ∧ o ≤ p + 10) → μ1 o = μ o) : CJ μ1 p := by
  have h0 := e 0 (by omega)
  have hp := e p (by omega)
  exact ⟨by rw [h0]; exact h.1, by rw [h0]; exact h.2.1, h.i.cg (fun o q => e o (by omega)), h.pg.cg (fun o q => e o (by omega)), by rw [hp]; exact h.kn⟩
theorem CJ.bm (h : CJ μ p) (hg : 0 ≤ g ∧ g < μ p 14) {i : Int} (hi : μ (p + 9) g ≤ i ∧ i < μ (p + 9) g + μ (p + 10) g) : 1 ≤ bmz μ p i := by
  have h1 := h.pg.of hg hi
  unfold bmz
  rw [if_neg (by omega)]
  exact h1.2.2
/-- any positions of the notes of a group, any knee -/
theorem CJ.ldq (h : CJ μ p) (hg : 0 ≤ g ∧ g < μ p 14) {q kn : Int} (hk : 4 ≤ kn ∧ kn ≤ 24) (hq : ∀ i, μ (p + 9) g ≤ i → i < μ (p + 9) g + μ (p + 10) g → -12 ≤ μ q i ∧ μ q i ≤ 12) : ldok μ p q (μ (p + 9) g) (μ (p + 10) g) kn :=
  ⟨h.pg.fl hg, hk, fun i h1 h2 => ⟨hq i h1 h2, h.bm hg ⟨h1, h2⟩⟩⟩
theorem CJ.ld5 (h : CJ μ p) (hg : 0 ≤ g ∧ g < μ p 14) {kn : Int} (hk : 4 ≤ kn ∧ kn ≤ 24) : ldok μ p (p + 5) (μ (p + 9) g) (μ (p + 10) g) kn :=
  h.ldq hg hk (fun i h1 h2 => h.i.hd rfl (by have := h.pg.fl hg; omega))
theorem CJ.lda (h : CJ μ p) {kn : Int} (hk : 4 ≤ kn ∧ kn ≤ 24) : LDA μ p (p + 5) kn := fun _ h1 h2 => h.ld5 ⟨h1, h2⟩ hk
/-- a part of a group -/
theorem CJ.ldc (h : CJ μ p) (hg : 0 ≤ g ∧ g < μ p 14) {f m : Int} (h1 : μ (p + 9) g ≤ f) (h2 : f + m ≤ μ (p + 9) g + μ (p + 10) g) (h3 : 2 ≤ m) : ldok μ p (p + 5) f m (μ p 3) := by
  have h4 := h.pg.fl hg
  exact ⟨by omega, h.kn, fun i q1 q2 => ⟨h.i.hd rfl (by omega), h.bm hg (by omega)⟩⟩
end CJs
/-- groups by positions of their own -/
def ddF (μ : Mu) (p : Int) (hf : Int → Int) (kn : Int) : Int → GDt := fun g => gdtF μ p hf (μ (p + 9) g) (μ (p + 10) g) kn
theorem ddt_F (μ : Mu) (p q kn : Int) : ddt μ p q kn = ddF μ p (μ q) kn := rfl
theorem bmz_cg {μ μ1 : Mu} {p : Int} (e : ∀ o : Int, p ≤ o ∧ o ≤ p + 10 → μ1 o = μ o) (i : Int) : bmz μ1 p i = bmz μ p i := by
  unfold bmz
  rw [e (p + 3) (by omega), e (p + 4) (by omega)]
theorem gdtF_cg {μ μ1 : Mu} {p f m kn : Int} {h1 h2 : Int → Int} (e : ∀ o : Int, p ≤ o ∧ o ≤ p + 10 → μ1 o = μ o) (hh : ∀ i, f ≤ i → i < f + m → h1 i = h2 i) : gdtF μ1 p h1 f m kn = gdtF μ p h2 f m kn := by
  unfold gdtF
  rw [e (p + 7) (by omega)]
  have e1 : tr m (fun i => h1 (f + i)) = tr m (fun i => h2 (f + i)) := by
    funext i
    unfold tr
    split
    · exact hh _ (by omega) (by omega)
    · rfl
  have e2 : (fun i => bmz μ1 p (f + i)) = (fun i => bmz μ p (f + i)) := by
    funext i
    exact bmz_cg e _
  rw [e1, e2]
def ow (s : Int) : Int := if s % 2 = 0 then s / 2 else -((s + 1) / 2)
theorem ow_r {s : Int} (h : 0 ≤ s) : -((s + 1) / 2) ≤ ow s ∧ ow s ≤ s / 2 := by unfold ow; split <;> omega
/-- the greatest divisor, so many steps at most -/
def gdN : Nat → Int → Int → Int
  | 0, x, _ => x
  | m + 1, x, y => if y = 0 then x else gdN m y (x % y)
def gdS (s x y : Int) : Int := gdN (100 - s).toNat x y
theorem gdS_go {s x y : Int} (h : s < 100) (hy : ¬ y = 0) : gdS s x y = gdS (s + 1) y (x % y) := by
  unfold gdS
  obtain ⟨m, hm⟩ : ∃ m, (100 - s).toNat = m + 1 := ⟨(100 - s).toNat - 1, by omega⟩
  rw [hm, gdN, if_neg hy, show (100 - (s + 1)).toNat = m by omega]
theorem gdS_0 {s x y : Int} (hy : y = 0 ∨ 100 ≤ s) : gdS s x y = x := by
  unfold gdS
  cases h : (100 - s).toNat with
  | zero => rfl
  | succ m => rw [gdN, if_pos (by omega)]
/-- what stem() tells -/
def stmV (D : GDt) (a w : Int) : Int := if w < 2 then len D (bR D - bL D) (bL D) a else bL D * spn D + (bR D - bL D) * dX D a
def stmA (D : GDt) (a w : Int) : Int := if mnK D = 9223372036854775807 then -1000000 else Int.tdiv (if w % 2 = 0 then stmV D a w else spn D) (max 1 (gdS 0 (ab (stmV D a w)) (spn D)))
theorem hgt_f (D : GDt) (s l a : Int) (hs : inS s l) (ha : 0 ≤ a ∧ a < dN D) (hok : GOK D) : -200000 ≤ l * spn D + s * dX D a ∧ l * spn D + s * dX D a ≤ 200000 := by
  have h1 := hok.sp
  have h2 := hok.xs ha
  have h3 := am_mul_b (A := 60) (B := 2520) (a := l) (b := spn D) hs.1.1 (by omega)
  have h4 := am_mul_b (A := 8) (B := 2520) (a := s) (b := dX D a) hs.2 (by omega)
  omega
theorem stmV_r {D : GDt} {a w : Int} (hok : GOK D) (hn : ¬ mnK D = 9223372036854775807) (ha : 0 ≤ a ∧ a < dN D) : -300000 ≤ stmV D a w ∧ stmV D a w ≤ 300000 := by
  have h := mnK_w hok hn
  have h1 := hgt_f D _ _ a h.1 ha hok
  have h2 := len_r (s := bR D - bL D) (l := bL D) hok ha h.1.2 (by have := h.1.1; unfold inL at this; omega)
  unfold stmV
  split <;> omega
/-- the place of the shortest, the longest stem -/
def extI (D : GDt) (w i : Int) : Int := itr (fun j a => if (if w = 0 then len D (bR D - bL D) (bL D) (j + 1) - len D (bR D - bL D) (bL D) a < 0 else 0 < len D (bR D - bL D) (bL D) (j + 1) - len D (bR D - bL D) (bL D) a) then j + 1 else a) 0 i
theorem extI_s {D : GDt} {w i : Int} (h : 0 ≤ i) : extI D w (i + 1) = if (if w = 0 then len D (bR D - bL D) (bL D) (i + 1) - len D (bR D - bL D) (bL D) (extI D w i) < 0 else 0 < len D (bR D - bL D) (bL D) (i + 1) - len D (bR D - bL D) (bL D) (extI D w i)) then i + 1 else extI D w i := itr_succ h
theorem extI_r {D : GDt} {w i : Int} (h : 0 ≤ i) : 0 ≤ extI D w i ∧ extI D w i ≤ i :=
  itr_ind (fun i x => 0 ≤ x ∧ x ≤ i) (by simp) (fun i x h1 h2 => by split <;> omega) i h
/-- UGLINESS of a part of a group as a group of its own; -2: it can't be -/
def uglP (D : Int → Int → GDt) (f m : Int) : Int := if m = 1 then 0 else if mnK (D f m) = 9223372036854775807 then -2 else bU (D f m)
def cutP (D : Int → Int → GDt) (f m k : Int) : Int := if uglP D f k = -2 then -2 else if uglP D (f + k) (m - k) = -2 then -2 else uglP D f k + uglP D (f + k) (m - k)
/-- the first k of the least -/
def cutI (c : Int → Int) (i : Int) : Int × Int := itr (fun j t => if ¬ c (j + 1) = -2 ∧ c (j + 1) < t.2 then (j + 1, c (j + 1)) else t) (-2, 2147483647) i
theorem cutI_s {c : Int → Int} {i : Int} (h : 0 ≤ i) : cutI c (i + 1) = if ¬ c (i + 1) = -2 ∧ c (i + 1) < (cutI c i).2 then (i + 1, c (i + 1)) else cutI c i := itr_succ h
/-- beamed notes of no group: how many, the first -/
def alnI (b g : Int → Int) (i : Int) : Int × Int := itr (fun j t => if 0 < b j ∧ g j < 0 then (t.1 + 1, if t.1 = 0 then j else t.2) else t) (0, -2) i
theorem alnI_s {b g : Int → Int} {i : Int} (h : 0 ≤ i) : alnI b g (i + 1) = if 0 < b i ∧ g i < 0 then ((alnI b g i).1 + 1, if (alnI b g i).1 = 0 then i else (alnI b g i).2) else alnI b g i := itr_succ h
theorem ow_f (s : Int) (h : 0 ≤ s) : -((s + 1) / 2) ≤ ow s ∧ ow s ≤ s / 2 := ow_r h
