/-! ===== A group in numbers: how many notes, X, positions, beams, the knee; what the document says of it ===== -/
abbrev GDt : Type := Int × (Int → Int) × (Int → Int) × (Int → Int) × Int
def dN (D : GDt) : Int := D.1
def dX (D : GDt) : Int → Int := D.2.1
def dH (D : GDt) : Int → Int := D.2.2.1
def dB (D : GDt) : Int → Int := D.2.2.2.1
def dK (D : GDt) : Int := D.2.2.2.2
def tr (n : Int) (f : Int → Int) : Int → Int := fun i => if 0 ≤ i ∧ i < n then f i else 0
theorem tr_at {n : Int} {f : Int → Int} {i : Int} (h : 0 ≤ i ∧ i < n) : tr n f i = f i := if_pos h
def ab (a : Int) : Int := if 0 ≤ a then a else -a
def GOK (D : GDt) : Prop := (2 ≤ dN D ∧ dN D ≤ 64) ∧ (4 ≤ dK D ∧ dK D ≤ 24) ∧ dX D 0 = 0 ∧ (∀ i, 0 ≤ i → i + 1 < dN D → dX D i + 4 ≤ dX D (i + 1) ∧ dX D (i + 1) ≤ dX D i + 40) ∧
  (∀ i, 0 ≤ i → i < dN D → (-12 ≤ dH D i ∧ dH D i ≤ 12) ∧ (1 ≤ dB D i ∧ dB D i ≤ 3))
section GOKs
variable {D : GDt} {i j : Int}
theorem GOK.n (h : GOK D) : 2 ≤ dN D ∧ dN D ≤ 64 := h.1
theorem GOK.k (h : GOK D) : 4 ≤ dK D ∧ dK D ≤ 24 := h.2.1
theorem GOK.hr (h : GOK D) (hi : 0 ≤ i ∧ i < dN D) : -12 ≤ dH D i ∧ dH D i ≤ 12 := (h.2.2.2.2 i hi.1 hi.2).1
theorem GOK.br (h : GOK D) (hi : 0 ≤ i ∧ i < dN D) : 1 ≤ dB D i ∧ dB D i ≤ 3 := (h.2.2.2.2 i hi.1 hi.2).2
theorem GOK.xb (h : GOK D) : ∀ (m : Nat), (m : Int) < dN D → 4 * (m : Int) ≤ dX D m ∧ dX D m ≤ 40 * (m : Int) := by
  intro m
  induction m with
  | zero => intro _; rw [show ((0 : Nat) : Int) = 0 from rfl, h.2.2.1]; omega
  | succ m ih =>
    intro hm
    have h1 := ih (by omega)
    have h2 := h.2.2.2.1 m (by omega) (by omega)
    rw [show ((m + 1 : Nat) : Int) = (m : Int) + 1 by omega]
    omega
theorem GOK.xr (h : GOK D) (hi : 0 ≤ i ∧ i < dN D) : 4 * i ≤ dX D i ∧ dX D i ≤ 40 * i := by
  have := h.xb i.toNat (by omega)
  rw [show ((i.toNat : Nat) : Int) = i by omega] at this
  exact this
/-- X goes up -/
theorem GOK.xm (h : GOK D) : ∀ (m : Nat) (i : Int), 0 ≤ i → i + (m : Int) < dN D → dX D i ≤ dX D (i + m) := by
  intro m
  induction m with
  | zero => intro i _ _; rw [show i + ((0 : Nat) : Int) = i by omega]; omega
  | succ m ih =>
    intro i h0 h1
    have h2 := ih i h0 (by omega)
    have h3 := h.2.2.2.1 (i + m) (by omega) (by omega)
    rw [show i + ((m + 1 : Nat) : Int) = i + (m : Int) + 1 by omega]
    omega
end GOKs
def spn (D : GDt) : Int := dX D (dN D - 1)
theorem GOK.sp {D : GDt} (h : GOK D) : 4 ≤ spn D ∧ spn D ≤ 2520 := by
  have h1 := h.n
  have h2 := h.xr (i := dN D - 1) (by omega)
  unfold spn
  omega
theorem GOK.xs {D : GDt} {i : Int} (h : GOK D) (hi : 0 ≤ i ∧ i < dN D) : 0 ≤ dX D i ∧ dX D i ≤ spn D := by
  have h1 := h.xr hi
  have h2 := h.xm (dN D - 1 - i).toNat i hi.1 (by omega)
  rw [show i + (((dN D - 1 - i).toNat : Nat) : Int) = dN D - 1 by omega] at h2
  unfold spn
  omega
/-- whether a note lies at p -/
def hasI (D : GDt) (p i : Int) : Bool := itr (fun j b => b || decide (dH D j = p)) false i
def has (D : GDt) (p : Int) : Bool := hasI D p (dN D)
abbrev KS : Type := Int × Int × Int × Int
def kstep (D : GDt) (p : Int) (t : KS) : KS :=
  if has D p = true then
    (if dK D ≤ (if t.2.2.2 = 99 then 0 else p - t.2.2.2) ∧ (t.2.1 < (if t.2.2.2 = 99 then 0 else p - t.2.2.2) ∨ (if t.2.2.2 = 99 then 0 else p - t.2.2.2) = t.2.1 ∧ ab (p + t.2.2.2) < t.2.2.1) then
      (t.2.2.2, (if t.2.2.2 = 99 then 0 else p - t.2.2.2), ab (p + t.2.2.2), p) else (t.1, t.2.1, t.2.2.1, p)) else t
/-- the search for the knee, behind s of the positions -12, -11 .. -/
def kst (D : GDt) (s : Int) : KS := itr (fun j t => kstep D (j - 12) t) (99, 0, 0, 99) s
def klow (D : GDt) : Int := (kst D 25).1
def hiD (D : GDt) (i : Int) : Int := itr (fun j a => max a (dH D j)) 0 i
def loD (D : GDt) (i : Int) : Int := itr (fun j a => max a (-dH D j)) 0 i
def suD (D : GDt) (i : Int) : Int := itr (fun j a => a + dH D j) 0 i
def cway (D : GDt) : Int := if 0 ≤ (if ¬ hiD D (dN D) = loD D (dN D) then hiD D (dN D) - loD D (dN D) else if ¬ suD D (dN D) = 0 then suD D (dN D) else dH D 0) then -1 else 1
def way (D : GDt) (i : Int) : Int := if klow D = 99 then cway D else if klow D < dH D i then -1 else 1
theorem way_r (D : GDt) (i : Int) : way D i = 1 ∨ way D i = -1 := by
  unfold way cway
  omega
def wsu (D : GDt) (i : Int) : Int := itr (fun j a => a + way D j) 0 i
def nearB (D : GDt) (i : Int) : Bool := if 0 < way D 0 then decide (max (dH D 0) (dH D (dN D - 1)) < dH D i) else decide (dH D i < min (dH D 0) (dH D (dN D - 1)))
def hnear (D : GDt) (i : Int) : Bool := itr (fun j b => b || (decide (1 ≤ j) && nearB D j)) false i
def want (D : GDt) : Int := if klow D = 99 ∧ hnear D (dN D - 1) = true then 0 else max (-5) (min 5 (dH D (dN D - 1) - dH D 0))
theorem want_r (D : GDt) : -5 ≤ want D ∧ want D ≤ 5 := by
  unfold want
  split <;> omega
def usu (b : Int) : Int := if b = 3 then 17 else if b = 2 then 15 else 14
def idl (b w h : Int) : Int := if usu b < ab (2 * h) ∧ w * h < 0 then ab (2 * h) else usu b
def ideal (D : GDt) (i : Int) : Int := idl (dB D i) (way D i) (dH D i)
theorem usu_r (b : Int) : 14 ≤ usu b ∧ usu b ≤ 17 := by unfold usu; split <;> (try split) <;> omega
theorem idl_r {b w h : Int} (hh : -12 ≤ h ∧ h ≤ 12) : 14 ≤ idl b w h ∧ idl b w h ≤ 24 := by
  have := usu_r b
  unfold idl ab
  split <;> (try split) <;> omega
theorem idl_f (b w h : Int) (hh : -12 ≤ h ∧ h ≤ 12) : 14 ≤ idl b w h ∧ idl b w h ≤ 24 := idl_r hh
theorem ideal_r {D : GDt} {i : Int} (h : GOK D) (hi : 0 ≤ i ∧ i < dN D) : 14 ≤ ideal D i ∧ ideal D i ≤ 24 := idl_r (h.hr hi)
/-- a stem's length times the span, of the beam of slope s, l being 0; and with l -/
def bas (D : GDt) (s i : Int) : Int := way D i * (s * dX D i - 2 * dH D i * spn D)
def bsu (D : GDt) (s i : Int) : Int := itr (fun j a => a + bas D s j) 0 i
def len (D : GDt) (s l i : Int) : Int := bas D s i + way D i * l * spn D
def lst (b : Int) : Int := if b = 3 then 13 else if b = 2 then 11 else 10
theorem lst_r (b : Int) : 10 ≤ lst b ∧ lst b ≤ 13 := by unfold lst; split <;> (try split) <;> omega
def okN (D : GDt) (s l i : Int) : Prop := lst (dB D i) * spn D ≤ len D s l i ∧ len D s l i ≤ 44 * spn D
def alw (D : GDt) (s l : Int) : Prop := ∀ i, 0 ≤ i → i < dN D → okN D s l i
def inL (s l : Int) : Prop := (-60 ≤ l ∧ l ≤ 60) ∧ (-60 ≤ l + s ∧ l + s ≤ 60)
def inS (s l : Int) : Prop := inL s l ∧ (-8 ≤ s ∧ s ≤ 8)
def offc (D : GDt) (s l i : Int) : Int := if len D s l i - ideal D i * spn D < 0 then -2 * (len D s l i - ideal D i * spn D) else len D s l i - ideal D i * spn D
def ssu (D : GDt) (s l i : Int) : Int := itr (fun j a => a + offc D s l j) 0 i
def stm (D : GDt) (s l : Int) : Int := ssu D s l (dN D) / spn D
def slp (D : GDt) (s : Int) : Int := 6 * ab (s - want D) + (if s * want D < 0 then 20 else 0)
def tco (h r : Int) : Int := if h < -9 ∨ 9 < h then 0 else if h % 4 = 0 then (if r = 0 then 2 else 1) else if h % 4 = 1 then (if r < 0 then 8 else 0) else if h % 4 = 2 then 25 else (if 0 < r then 8 else 0)
theorem tco_r (h r : Int) : 0 ≤ tco h r ∧ tco h r ≤ 25 := by unfold tco; split <;> (try split) <;> (try split) <;> (try split) <;> omega
def ecs (D : GDt) (i h r k : Int) : Int := itr (fun j a => a + tco (h - way D i * 3 * j) r) 0 k
def eco (D : GDt) (i h r : Int) : Int := ecs D i h r (dB D i)
def stf (D : GDt) (s l : Int) : Int := eco D 0 l s + eco D (dN D - 1) (l + s) (-s)
def ugl (D : GDt) (s l : Int) : Int := stm D s l + slp D s + stf D s l
def lns (D : GDt) (s l : Int) : Int := bsu D s (dN D) + wsu D (dN D) * l * spn D
def key (D : GDt) (s l : Int) : Int := (((ugl D s l * 16 + ab s) * 16777216 + bsu D s (dN D) + wsu D (dN D) * l * spn D) * 128 + 60 + way D 0 * l) * 128 + 60 + way D 0 * (l + s)
-- bounds
theorem am_mul_b {a b A B : Int} (ha : -A ≤ a ∧ a ≤ A) (hb : -B ≤ b ∧ b ≤ B) : -(A * B) ≤ a * b ∧ a * b ≤ A * B := by
  have hA : 0 ≤ A := by omega
  have hB : 0 ≤ B := by omega
  have h1 : a.natAbs * b.natAbs ≤ A.natAbs * B.natAbs := Nat.mul_le_mul (by omega) (by omega)
  rw [← Int.natAbs_mul, ← Int.natAbs_mul] at h1
  have h2 : 0 ≤ A * B := Int.mul_nonneg hA hB
  omega
theorem way_b (D : GDt) (i : Int) : -1 ≤ way D i ∧ way D i ≤ 1 := by rcases way_r D i with h | h <;> omega
theorem bas_r {D : GDt} {s i : Int} (h : GOK D) (hi : 0 ≤ i ∧ i < dN D) (hs : -8 ≤ s ∧ s ≤ 8) : -90000 ≤ bas D s i ∧ bas D s i ≤ 90000 := by
  have h1 := h.xs hi
  have h2 := h.sp
  have h3 := h.hr hi
  have h4 := am_mul_b (a := s) (b := dX D i) (A := 8) (B := 2520) (by omega) (by omega)
  have h5 := am_mul_b (a := 2 * dH D i) (b := spn D) (A := 24) (B := 2520) (by omega) (by omega)
  have h6 := am_mul_b (a := way D i) (b := s * dX D i - 2 * dH D i * spn D) (A := 1) (B := 90000) (way_b D i) (by omega)
  unfold bas
  omega
theorem itr_b {g : Int → Int → Int} {A : Int} {n : Int} (hA : 0 ≤ A) (h : ∀ i x, 0 ≤ i → i < n → x - A ≤ g i x ∧ g i x ≤ x + A) : ∀ i, 0 ≤ i → i ≤ n → -(A * i) ≤ itr g 0 i ∧ itr g 0 i ≤ A * i := by
  refine itr_indn (fun i x => -(A * i) ≤ x ∧ x ≤ A * i) (by simp) ?_
  intro i x h1 h2 h3
  have h4 := h i x h1 h2
  rw [show A * (i + 1) = A * i + A by rw [Int.mul_add, Int.mul_one]]
  omega
theorem bsu_r {D : GDt} {s i : Int} (h : GOK D) (hs : -8 ≤ s ∧ s ≤ 8) (hi : 0 ≤ i ∧ i ≤ dN D) : -5760000 ≤ bsu D s i ∧ bsu D s i ≤ 5760000 := by
  have h1 := itr_b (g := fun j a => a + bas D s j) (A := 90000) (n := dN D) (by omega) (fun j x h1 h2 => by have := bas_r (s := s) h ⟨h1, h2⟩ hs; omega) i hi.1 hi.2
  have h2 := h.n
  unfold bsu
  omega
theorem wsu_r {D : GDt} {i : Int} (h : GOK D) (hi : 0 ≤ i ∧ i ≤ dN D) : -64 ≤ wsu D i ∧ wsu D i ≤ 64 := by
  have h1 := itr_b (g := fun j a => a + way D j) (A := 1) (n := dN D) (by omega) (fun j x h1 h2 => by have := way_b D j; omega) i hi.1 hi.2
  have h2 := h.n
  unfold wsu
  omega
theorem wl_r {D : GDt} {l i : Int} (h : GOK D) (hl : -68 ≤ l ∧ l ≤ 68) : (-68 ≤ way D i * l ∧ way D i * l ≤ 68) ∧ (-171360 ≤ way D i * l * spn D ∧ way D i * l * spn D ≤ 171360) := by
  have h2 := h.sp
  have h3 := am_mul_b (A := 1) (B := 68) (way_b D i) hl
  have h4 := am_mul_b (a := way D i * l) (b := spn D) (A := 68) (B := 2520) (by omega) (by omega)
  exact ⟨by omega, by omega⟩
theorem len_r {D : GDt} {s l i : Int} (h : GOK D) (hi : 0 ≤ i ∧ i < dN D) (hs : -8 ≤ s ∧ s ≤ 8) (hl : -68 ≤ l ∧ l ≤ 68) : -261360 ≤ len D s l i ∧ len D s l i ≤ 261360 := by
  have h1 := bas_r h hi hs
  have h2 := (wl_r (i := i) h hl).2
  unfold len
  omega
theorem ids_r {D : GDt} {i : Int} (h : GOK D) (hi : 0 ≤ i ∧ i < dN D) : 0 ≤ ideal D i * spn D ∧ ideal D i * spn D ≤ 60480 := by
  have h1 := ideal_r h hi
  have h2 := h.sp
  have h3 := am_mul_b (a := ideal D i) (b := spn D) (A := 24) (B := 2520) (by omega) (by omega)
  exact ⟨Int.mul_nonneg (by omega) (by omega), by omega⟩
theorem offc_r {D : GDt} {s l i : Int} (h : GOK D) (hi : 0 ≤ i ∧ i < dN D) (hs : -8 ≤ s ∧ s ≤ 8) (hl : -68 ≤ l ∧ l ≤ 68) : 0 ≤ offc D s l i ∧ offc D s l i ≤ 650000 := by
  have h1 := len_r h hi hs hl
  have h2 := ids_r h hi
  unfold offc
  split <;> omega
theorem ssu_r {D : GDt} {s l i : Int} (h : GOK D) (hs : -8 ≤ s ∧ s ≤ 8) (hl : -68 ≤ l ∧ l ≤ 68) (hi : 0 ≤ i ∧ i ≤ dN D) : 0 ≤ ssu D s l i ∧ ssu D s l i ≤ 41600000 := by
  have h1 := itr_indn (g := fun j a => a + offc D s l j) (a := 0) (n := dN D) (fun i x => 0 ≤ x ∧ x ≤ 650000 * i) (by simp) (fun j x h1 h2 h3 => by have := offc_r (s := s) (l := l) h ⟨h1, h2⟩ hs hl; omega) i hi.1 hi.2
  have h2 := h.n
  unfold ssu
  omega
theorem slp_r (D : GDt) {s : Int} (hs : -8 ≤ s ∧ s ≤ 8) : 0 ≤ slp D s ∧ slp D s ≤ 98 ∧ 6 * ab (s - want D) ≤ slp D s := by
  have h := want_r D
  unfold slp ab
  split <;> split <;> omega
theorem ecs_r (D : GDt) (i h r : Int) {k : Int} (hk : 0 ≤ k) : 0 ≤ ecs D i h r k ∧ ecs D i h r k ≤ 25 * k :=
  itr_ind (fun k x => 0 ≤ x ∧ x ≤ 25 * k) (by simp) (fun j x h1 h2 => by have := tco_r (h - way D i * 3 * j) r; omega) k hk
theorem stf_r {D : GDt} (h : GOK D) (s l : Int) : 0 ≤ stf D s l ∧ stf D s l ≤ 150 := by
  have h1 := h.n
  have h2 := h.br (i := 0) (by omega)
  have h3 := h.br (i := dN D - 1) (by omega)
  have h4 := ecs_r D 0 l s (k := dB D 0) (by omega)
  have h5 := ecs_r D (dN D - 1) (l + s) (-s) (k := dB D (dN D - 1)) (by omega)
  unfold stf eco
  omega
theorem stm_r {D : GDt} {s l : Int} (h : GOK D) (hs : -8 ≤ s ∧ s ≤ 8) (hl : -68 ≤ l ∧ l ≤ 68) : 0 ≤ stm D s l ∧ stm D s l ≤ 41600000 := by
  have h1 := ssu_r h hs hl (i := dN D) ⟨by have := h.n; omega, by omega⟩
  have h2 := h.sp
  have h3 := am_div_r h1.1 (show 0 < spn D by omega)
  unfold stm
  omega
theorem hiD_s {D : GDt} {i : Int} (h : 0 ≤ i) : hiD D (i + 1) = max (hiD D i) (dH D i) := itr_succ h
theorem loD_s {D : GDt} {i : Int} (h : 0 ≤ i) : loD D (i + 1) = max (loD D i) (-dH D i) := itr_succ h
theorem suD_s {D : GDt} {i : Int} (h : 0 ≤ i) : suD D (i + 1) = suD D i + dH D i := itr_succ h
theorem wsu_s {D : GDt} {i : Int} (h : 0 ≤ i) : wsu D (i + 1) = wsu D i + way D i := itr_succ h
theorem bsu_s {D : GDt} {s i : Int} (h : 0 ≤ i) : bsu D s (i + 1) = bsu D s i + bas D s i := itr_succ h
theorem ssu_s {D : GDt} {s l i : Int} (h : 0 ≤ i) : ssu D s l (i + 1) = ssu D s l i + offc D s l i := itr_succ h
theorem ecs_s {D : GDt} {i h r k : Int} (hk : 0 ≤ k) : ecs D i h r (k + 1) = ecs D i h r k + tco (h - way D i * 3 * k) r := itr_succ hk
theorem hnear_s {D : GDt} {i : Int} (h : 0 ≤ i) : hnear D (i + 1) = (hnear D i || (decide (1 ≤ i) && nearB D i)) := itr_succ h
theorem hls_r {D : GDt} {i : Int} (h : GOK D) (hi : 0 ≤ i ∧ i ≤ dN D) : (0 ≤ hiD D i ∧ hiD D i ≤ 12) ∧ (0 ≤ loD D i ∧ loD D i ≤ 12) ∧ (-768 ≤ suD D i ∧ suD D i ≤ 768) := by
  have hn := h.n
  have h1 := itr_indn (g := fun j a => max a (dH D j)) (a := 0) (n := dN D) (fun i x => 0 ≤ x ∧ x ≤ 12) (by simp) (fun j x h1 h2 h3 => by have := h.hr ⟨h1, h2⟩; omega) i hi.1 hi.2
  have h2 := itr_indn (g := fun j a => max a (-dH D j)) (a := 0) (n := dN D) (fun i x => 0 ≤ x ∧ x ≤ 12) (by simp) (fun j x h1 h2 h3 => by have := h.hr ⟨h1, h2⟩; omega) i hi.1 hi.2
  have h3 := itr_b (g := fun j a => a + dH D j) (A := 12) (n := dN D) (by omega) (fun j x h1 h2 => by have := h.hr ⟨h1, h2⟩; omega) i hi.1 hi.2
  refine ⟨h1, h2, ?_⟩
  unfold suD
  omega
