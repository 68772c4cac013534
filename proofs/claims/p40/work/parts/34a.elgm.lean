/-! ===== What group() tells ===== -/
def mbD (D : GDt) (i : Int) : Int := itr (fun j a => max a (dB D j)) 0 i
def upD (D : GDt) (i : Int) : Int := itr (fun j a => a + if 0 < way D j then 1 else 0) 0 i
theorem mbD_s {D : GDt} {i : Int} (h : 0 ≤ i) : mbD D (i + 1) = max (mbD D i) (dB D i) := itr_succ h
theorem upD_s {D : GDt} {i : Int} (h : 0 ≤ i) : upD D (i + 1) = upD D i + if 0 < way D i then 1 else 0 := itr_succ h
theorem upD_r (D : GDt) {i : Int} (h : 0 ≤ i) : 0 ≤ upD D i ∧ upD D i ≤ i := itr_ind (fun i x => 0 ≤ x ∧ x ≤ i) (by simp) (fun i x h1 h2 => by split <;> omega) i h
def grT (μ : Mu) (p g w : Int) : Int := if ¬ (0 ≤ g ∧ g < μ p 14) then 1 else if ¬ (0 ≤ w ∧ w ≤ 6) then 2 else 0
def grV (D : GDt) (f w : Int) : Int := if w = 0 then f else if w = 1 then dN D else if w = 2 then am_b (¬ klow D = 99) else if w = 3 then spn D else if w = 4 then mbD D (dN D) else if w = 5 then cnD D else upD D (dN D)
