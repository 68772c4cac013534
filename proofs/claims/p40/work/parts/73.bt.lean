/-! ===== A builder that the law fills: what she holds, as a list; her string, brought to its place ===== -/
section bt1
variable {K : XKt} {G G' G0 Gb : AG} {M M2 : AMeth} {cs ss pc : Nat} {ls st rest : List AV} {μ μ1 μ0 μ' : Mu}
variable {l : List Int}
/-- letters -/
def asc (l : List Int) : Prop := ∀ x ∈ l, 0 ≤ x ∧ x ≤ 127
/-- a row begins with these -/
def rwl (f : Int → Int) (l : List Int) : Prop := ∀ j : Nat, j < l.length → f (j : Int) = l.getD j 0
/-- a text of the law, a number's digits -/
def ltx (i : Nat) : List Int := (lw_byts.getD i []).map Int32.toInt
def dgl (v : Int) : List Int := if v < 10 then [48 + v] else [48 + v / 10, 48 + v % 10]
theorem ltx_len : ∀ i : Nat, i < 9 → (ltx i).length = lln i := by decide +kernel
theorem ltx_at (i j : Nat) : lby i (j : Int) = (ltx i).getD j 0 := by
  unfold lby ltx
  generalize lw_byts.getD i [] = L
  rw [Int.toNat_natCast, List.getD_eq_getElem?_getD, List.getD_eq_getElem?_getD, List.getElem?_map]
  cases L[j]? <;> rfl
theorem asc_ltx : ∀ i : Nat, i < 9 → ∀ x ∈ ltx i, 0 ≤ x ∧ x ≤ 127 := by decide +kernel
theorem dgl_len (v : Int) : ((dgl v).length : Int) = ndl v := by unfold dgl ndl; split <;> rfl
theorem dgl_l (v : Int) : 1 ≤ (dgl v).length ∧ (dgl v).length ≤ 2 := by unfold dgl; split <;> simp
theorem dgl_at {v : Int} {j : Nat} (h : j < (dgl v).length) : ndg v j = (dgl v).getD j 0 := by
  unfold dgl at h ⊢
  unfold ndg
  split
  · rename_i hc
    rw [if_pos hc] at h
    have : j = 0 := by simp at h; exact h
    subst this
    rfl
  · rename_i hc
    rw [if_neg hc] at h
    simp only [List.length_cons, List.length_nil] at h
    match j, h with
    | 0, _ => rfl
    | 1, _ => rfl
theorem asc_dgl {v : Int} (h : 0 ≤ v ∧ v ≤ 99) : asc (dgl v) := by
  intro x hx
  unfold dgl at hx
  split at hx
  · simp at hx; omega
  · simp at hx; omega
theorem asc_app {l l' : List Int} (h : asc l) (h' : asc l') : asc (l ++ l') := fun x hx => (List.mem_append.mp hx).elim (h x) (h' x)
theorem getD_l {l l' : List Int} {j : Nat} (h : j < l.length) : (l ++ l').getD j 0 = l.getD j 0 := by rw [List.getD_eq_getElem?_getD, List.getD_eq_getElem?_getD, List.getElem?_append_left h]
theorem getD_r {l l' : List Int} {j : Nat} : (l ++ l').getD (l.length + j) 0 = l'.getD j 0 := by rw [List.getD_eq_getElem?_getD, List.getD_eq_getElem?_getD, List.getElem?_append_right (Nat.le_add_right _ _), Nat.add_sub_cancel_left]
theorem rwl_app {f f' : Int → Int} {txt : Int → Int} {l l' : List Int} (h : rwl f l) (h1 : ∀ j : Int, 0 ≤ j → j < (l.length : Int) → f' j = f j) (h2 : ∀ j : Int, 0 ≤ j → j < (l'.length : Int) → f' ((l.length : Int) + j) = txt j) (h3 : ∀ j : Nat, j < l'.length → txt j = l'.getD j 0) : rwl f' (l ++ l') := by
  intro j hj
  rw [List.length_append] at hj
  by_cases hc : j < l.length
  · rw [h1 j (by omega) (by omega), h j hc, getD_l hc]
  · obtain ⟨k, rfl⟩ : ∃ k, j = l.length + k := ⟨j - l.length, by omega⟩
    rw [getD_r, ← h3 k (by omega), ← h2 k (by omega) (by omega)]
    congr 1
theorem lsok.mono {n m : Int} (h : n ≤ m) : ∀ {ls : List AV}, lsok n ls → lsok m ls := by
  intro ls
  induction ls with
  | nil => intro _; trivial
  | cons v vs ih => intro hl; exact ⟨fun q => Int.lt_of_lt_of_le (hl.1 q) h, ih hl.2⟩
theorem wfm_cg (hw : wfm G μ) (e : ∀ o : Int, o < ((gS G).length : Int) → μ1 o = μ o) : wfm G μ1 := by
  intro o ci n hs hc k hk
  have ho := (List.getElem?_eq_some_iff.mp hs).1
  obtain ⟨h1, h2⟩ := hw o ci n hs hc k hk
  exact ⟨h1, fun q => by rw [e o (by omega)]; exact h2 q⟩
theorem wfm_n9 {q : Nat} (hw : wfm G μ) : wfm (ax G (9, 4) q) (am_n0 μ (gS G).length 9) := by
  intro o ci n hs hci k hk
  rw [ax_len]
  have ho : o < (gS G).length ∨ o = (gS G).length := by
    have := (List.getElem?_eq_some_iff.mp hs).1
    rw [ax_len] at this
    omega
  rcases ho with ho | ho
  · have hs' : (gS G)[o]? = some (ci, n) := by
      have h9 : (gS (ax G (9, 4) q))[o]? = (gS G)[o]? := by show (gS G ++ [(9, 4)])[o]? = _; rw [List.getElem?_append_left ho]
      rw [← h9]; exact hs
    obtain ⟨h1, h2⟩ := hw o ci n hs' hci k hk
    refine ⟨fun h => ?_, fun h => ?_⟩
    · have := h1 h; show gR G o k < _; omega
    · rw [am_n0_o (by omega)]; have := h2 h; omega
  · subst ho
    rw [ax_sh] at hs
    cases hs
    refine ⟨fun h => ?_, fun h => ?_⟩
    · have h4 : ∀ k : Nat, k < 4 → am_ct 9 k ≠ 2 := by decide
      exact absurd h (h4 k hk)
    · rw [am_n0_at]
      split <;> omega
/-- builder b, over the world G0, holds l -/
def BT (G0 : AG) (μ0 : Mu) (G : AG) (μ : Mu) (b N : Nat) (l : List Int) : Prop :=
  Xt G0 G ∧ wfm G μ ∧ (∃ ρ : Nat, BDs G μ b ρ N ∧ (gS G0).length ≤ ρ ∧ rwl (μ ρ) l) ∧ ((gS G0).length ≤ b ∧ μ b 3 = (l.length : Int) ∧ l.length ≤ N) ∧ asc l ∧ ∀ o : Int, o < ((gS G0).length : Int) → μ o = μ0 o
/-- how long her row is behind an append -/
def nxN (N : Nat) (m : Int) (N' : Nat) : Prop := (N' : Int) = if m ≤ N then (N : Int) else max m (2 * N + 2)
theorem bt_ap {b N ρ : Nat} {l l' : List Int} {txt : Int → Int} {r : Option AV} (h : BT G0 μ0 G μ b N l) (hρ : BDs G μ b ρ N ∧ (gS G0).length ≤ ρ ∧ rwl (μ ρ) l) (hp : apP G μ b ρ N (l.length : Int) (l'.length : Int) txt G' r μ')
    (ht : ∀ j : Nat, j < l'.length → txt j = l'.getD j 0) (ha : asc l') : r = some (2, (b : Int)) ∧ ∃ N', nxN N ((l.length : Int) + l'.length) N' ∧ BT G0 μ0 G' μ' b N' (l ++ l') := by
  obtain ⟨hX, hw, -, ⟨hb0, hb3, hbN⟩, hasc, hF⟩ := h
  obtain ⟨rfl, ρ1, N1, ⟨e1, e1'⟩, e2, e3, e4, e5, e6, e7, e8, e9⟩ := hp
  have hL := hX.len
  have hrl := (List.getElem?_eq_some_iff.mp hρ.1.1.2).1
  refine ⟨rfl, N1, e4.2, hX.tr e1, e2, ⟨ρ1, e3, by rcases e9 with q | q <;> omega, rwl_app hρ.2.2 e6 e7 ht⟩, ⟨hb0, by rw [e5, List.length_append]; omega, by rw [List.length_append]; omega⟩, asc_app hasc ha, fun o ho => ?_⟩
  rw [e8 o (by omega) (by omega) (by omega)]
  exact hF o ho
theorem bt_appL {i b N : Nat} {l : List Int} {z : Int} (hf : g_Cw M pc "java/lang/StringBuilder" M_J4_append_15ec4 1) (hR : 6 ≤ K.1.frames ∧ 172 ≤ K.1.locals) (hroom : cs + 1 ≤ K.1.cells ∧ ss + 1000 ≤ K.1.slots) (hKA : gx_A K) (h : BT G0 μ0 G μ b N l) (hi : i < 9) (hN : N ≤ 400 ∧ l.length ≤ 400) (hz : z = ((20 + i : Nat) : Int)) (hcat : am_cs rest ≤ 8) (hol : lsok ((gS G0).length : Int) ls) (hor : lsok ((gS G0).length : Int) rest)
    (kk : ∀ (G' : AG) (μ' : Mu) (N' : Nat), nxN N ((l.length : Int) + (ltx i).length) N' → BT G0 μ0 G' μ' b N' (l ++ ltx i) → Gx K G' M (cs + 1) (ss + 1000) (pc + 3) ls ((2, (b : Int)) :: rest) μ') : Gx K G M cs ss pc ls ((3, z) :: (2, (b : Int)) :: rest) μ := by
  obtain ⟨ρ, hb, hρ⟩ := id h.2.2.1
  have hll := lln_b i hi
  have e : ((ltx i).length : Int) = (lln i : Int) := by rw [ltx_len i hi]
  have hL : ((gS G0).length : Int) ≤ ((gS G).length : Int) := by have := h.1.len; omega
  have h4 := h.2.2.2.1
  have hen : enN N ((l.length : Int) + lln i) ≤ 1000 := by unfold enN; omega
  subst hz
  refine x_callWX (as := [(3, ((20 + i : Nat) : Int))]) (rest := rest) (k := 0) (mc := 1) (ms := enN N ((l.length : Int) + lln i)) hf ⟨Nat.le_trans (Nat.le_of_ble_eq_true rfl) hR.1, Nat.le_trans (Nat.le_of_ble_eq_true rfl) hR.2⟩ ⟨hroom.1, by omega⟩ hKA h.2.1 rfl rfl hb.1.1 rfl rfl rfl rfl rfl hcat (hol.mono hL) (hor.mono hL) (s_append_L hb hi ⟨h4.2.1, by omega, by omega⟩ ⟨by omega, by omega⟩ h.2.1) (fun G' μ' r hp hx => ?_)
  rw [← e] at hp
  obtain ⟨rfl, N', hN', hB⟩ := bt_ap h ⟨hb, hρ⟩ hp (fun j _ => ltx_at i j) (asc_ltx i hi)
  exact Gx.widen (Nat.le_refl _) (by omega) (kk G' μ' N' hN' hB)
theorem bt_appS {o ρ' b N : Nat} {l l' : List Int} {z : Int} (hf : g_Cw M pc "java/lang/StringBuilder" M_J4_append_15ec4 1) (hR : 6 ≤ K.1.frames ∧ 172 ≤ K.1.locals) (hroom : cs + 1 ≤ K.1.cells ∧ ss + 1000 ≤ K.1.slots) (hKA : gx_A K) (h : BT G0 μ0 G μ b N l) (hs : STs G0 μ0 o ρ' l'.length ∧ rwl (μ0 ρ') l' ∧ asc l') (hN : N ≤ 400 ∧ l.length + l'.length ≤ 400) (hz : z = (o : Int)) (hcat : am_cs rest ≤ 8) (hol : lsok ((gS G0).length : Int) ls) (hor : lsok ((gS G0).length : Int) rest)
    (kk : ∀ (G' : AG) (μ' : Mu) (N' : Nat), nxN N ((l.length : Int) + l'.length) N' → BT G0 μ0 G' μ' b N' (l ++ l') → Gx K G' M (cs + 1) (ss + 1000) (pc + 3) ls ((2, (b : Int)) :: rest) μ') : Gx K G M cs ss pc ls ((2, z) :: (2, (b : Int)) :: rest) μ := by
  obtain ⟨ρ, hb, hρ⟩ := id h.2.2.1
  have hL : ((gS G0).length : Int) ≤ ((gS G).length : Int) := by have := h.1.len; omega
  have h4 := h.2.2.2.1
  have hF := h.2.2.2.2.2
  have hen : enN N ((l.length : Int) + l'.length) ≤ 1000 := by unfold enN; omega
  obtain ⟨⟨g1, g2⟩, ⟨g3, g4⟩, g5, g6⟩ := id hs.1
  have ho := (List.getElem?_eq_some_iff.mp g1).1
  have hr' := (List.getElem?_eq_some_iff.mp g2).1
  have hst : STs G μ o ρ' l'.length := ⟨⟨h.1.sh g1, h.1.sh g2⟩, ⟨by rw [hF o (by omega)]; exact g3, by rw [hF o (by omega)]; exact g4⟩, g5, fun i i0 i1 => by rw [hF ρ' (by omega)]; exact g6 i i0 i1⟩
  subst hz
  refine x_callWX (as := [(2, (o : Int))]) (rest := rest) (k := 0) (mc := 1) (ms := enN N ((l.length : Int) + l'.length)) hf ⟨Nat.le_trans (Nat.le_of_ble_eq_true rfl) hR.1, Nat.le_trans (Nat.le_of_ble_eq_true rfl) hR.2⟩ ⟨hroom.1, by omega⟩ hKA h.2.1 rfl rfl hb.1.1 rfl rfl rfl rfl rfl hcat (hol.mono hL) (hor.mono hL) (s_append_s hb hst ⟨h4.2.1, by omega, by omega⟩ ⟨by omega, by omega⟩ (by omega) h.2.1) (fun G' μ' r hp hx => ?_)
  obtain ⟨rfl, N', hN', hB⟩ := bt_ap h ⟨hb, hρ⟩ hp (fun j hj => by show μ ρ' (j : Int) = _; rw [hF ρ' (by omega)]; exact hs.2.1 j hj) hs.2.2
  exact Gx.widen (Nat.le_refl _) (by omega) (kk G' μ' N' hN' hB)
theorem bt_appI {b N : Nat} {l : List Int} {v : Int} (hf : g_Cw M pc "java/lang/StringBuilder" M_J4_append_bf812 1) (hR : 6 ≤ K.1.frames ∧ 172 ≤ K.1.locals) (hroom : cs + 1 ≤ K.1.cells ∧ ss + 1000 ≤ K.1.slots) (hKA : gx_A K) (h : BT G0 μ0 G μ b N l) (hv : 0 ≤ v ∧ v ≤ 99) (hN : N ≤ 400 ∧ l.length ≤ 400) (hcat : am_cs rest ≤ 8) (hol : lsok ((gS G0).length : Int) ls) (hor : lsok ((gS G0).length : Int) rest)
    (kk : ∀ (G' : AG) (μ' : Mu) (N' : Nat), nxN N ((l.length : Int) + (dgl v).length) N' → BT G0 μ0 G' μ' b N' (l ++ dgl v) → Gx K G' M (cs + 1) (ss + 1000) (pc + 3) ls ((2, (b : Int)) :: rest) μ') : Gx K G M cs ss pc ls ((0, v) :: (2, (b : Int)) :: rest) μ := by
  obtain ⟨ρ, hb, hρ⟩ := id h.2.2.1
  have e := dgl_len v
  have e2 := dgl_l v
  have hL : ((gS G0).length : Int) ≤ ((gS G).length : Int) := by have := h.1.len; omega
  have h4 := h.2.2.2.1
  have hen : enN N ((l.length : Int) + ndl v) ≤ 1000 := by unfold enN; omega
  refine x_callWX (as := [(0, v)]) (rest := rest) (k := 0) (mc := 1) (ms := enN N ((l.length : Int) + ndl v)) hf ⟨Nat.le_trans (Nat.le_of_ble_eq_true rfl) hR.1, Nat.le_trans (Nat.le_of_ble_eq_true rfl) hR.2⟩ ⟨hroom.1, by omega⟩ hKA h.2.1 rfl rfl hb.1.1 rfl rfl rfl rfl rfl hcat (hol.mono hL) (hor.mono hL) (s_append_i hb hv ⟨h4.2.1, by omega, by omega⟩ ⟨by omega, by omega⟩ h.2.1) (fun G' μ' r hp hx => ?_)
  rw [← e] at hp
  obtain ⟨rfl, N', hN', hB⟩ := bt_ap h ⟨hb, hρ⟩ hp (fun j hj => dgl_at hj) (asc_dgl hv)
  exact Gx.widen (Nat.le_refl _) (by omega) (kk G' μ' N' hN' hB)
theorem bt_new (hn : am_Fn M pc 9) (hd : decode M.2.1 (pc + 3) = .ok (.dup, 1)) (hf : g_Ci M (pc + 3 + 1) M_J4_init_da8c8 0) (hR : 6 ≤ K.1.frames ∧ 172 ≤ K.1.locals) (hroom : cs + 2 ≤ K.1.cells ∧ ss + 20 ≤ K.1.slots) (hKA : gx_A K) (hw : wfm G μ) (hcat : am_cs ((2, ((gS G).length : Int)) :: st) ≤ 8) (hol : lsok ((gS G).length : Int) ls) (hor : lsok ((gS G).length : Int) st)
    (kk : ∀ (G' : AG) (μ' : Mu), BT G μ G' μ' (gS G).length 16 [] → Gx K G' M (cs + 2) (ss + 20) (pc + 3 + 1 + 3) ls ((2, ((gS G).length : Int)) :: st) μ') : Gx K G M cs ss pc ls st μ := by
  refine x_newO hn hKA ⟨by omega, show ss + 4 ≤ _ by omega⟩ hw hol hor (fun q => ?_)
  show Gx K (ax G (9, 4) q) M (cs + 1) (ss + 4) (pc + 3) ls ((2, ((gS G).length : Int)) :: st) (am_n0 μ (gS G).length 9)
  have hX := Xt.ax G (9, 4) q
  have hw' := wfm_n9 (q := q) hw
  have hl1 : ((gS G).length : Int) ≤ ((gS (ax G (9, 4) q)).length : Int) := by rw [ax_len]; omega
  refine x_dup hd (by simp) ?_
  refine x_callIX (o := (gS G).length) (ci := 9) (as := []) (rest := (2, ((gS G).length : Int)) :: st) (k := 0) (mc := 1) (ms := 16) hf ⟨Nat.le_trans (Nat.le_of_ble_eq_true rfl) hR.1, Nat.le_trans (Nat.le_of_ble_eq_true rfl) hR.2⟩ ⟨by omega, show ss + 4 + 16 ≤ _ by omega⟩ hKA hw' rfl rfl ax_sh rfl rfl rfl rfl hcat (hol.mono hl1) ⟨fun _ => (by rw [ax_len]; omega), hor.mono hl1⟩ (s_J4_init ax_sh hw') (fun G' μ' r hp hx => ?_)
  obtain ⟨q2, rfl, rfl, rfl⟩ := hp
  have hX2 := Xt.ax (ax G (9, 4) q) (22, 16) q2
  have hne : ((gS G).length : Int) ≠ (((gS (ax G (9, 4) q)).length : Nat) : Int) := by rw [ax_len]; omega
  refine kk _ _ ⟨hX.tr hX2, wfm_up (wfm_up (wfm_ax hw' (show 20 ≤ 22 by decide) (fun o ho => am_nw_o ho)) (by simp only [ax_len]; omega)) (by simp only [ax_len]; omega), ⟨(gS G).length + 1, ⟨⟨hX2.sh ax_sh, ?_⟩, ⟨?_, am_up_at⟩, by decide, fun i i0 i1 => ?_⟩, by omega, fun j hj => absurd hj (Nat.not_lt_zero _)⟩, ⟨Nat.le_refl _, ?_, Nat.zero_le _⟩, fun x hx => absurd hx (List.not_mem_nil), fun o ho => ?_⟩
  · have h9 := @ax_sh (ax G (9, 4) q) (22, 16) q2
    rw [ax_len] at h9
    exact h9
  · rw [am_up_nk (by decide), am_up_at, ax_len]
  · rw [am_up_o (by omega), am_up_o (by omega)]
    have h9 := @am_nw_at (am_n0 μ (gS G).length 9) (gS (ax G (9, 4) q)).length i
    rw [ax_len] at h9
    rw [ax_len, h9]
    omega
  · rw [am_up_nk (by decide), am_up_nk (by decide), am_nw_o hne]
    have h9 := @am_n0_at μ (gS G).length 9 3
    exact h9
  · rw [am_up_o (by omega), am_up_o (by omega), am_nw_o (by rw [ax_len]; omega), am_n0_o (by omega)]
/-- a string and her row, brought behind the world Gb -/
def am_sv (μ : Mu) (B L : Nat) : Mu := fun a b => if a = (B : Int) then (if b = 0 then (B : Int) + 1 else μ L b) else if a = (B : Int) + 1 then μ ((L : Int) + 1) b else μ a b
/-- the string behind the world Gb holds l -/
def SBw (Gb : AG) (μ0 μ' : Mu) (l : List Int) : Prop := (μ' ((gS Gb).length : Int) 0 = ((gS Gb).length : Int) + 1 ∧ μ' ((gS Gb).length : Int) 1 = 0) ∧ rwl (μ' (((gS Gb).length : Int) + 1)) l ∧ ∀ o : Int, o < ((gS Gb).length : Int) → μ' o = μ0 o
/-- the world with a string behind -/
def sx2 (Gb : AG) (q1 q2 n : Nat) : AG := ax (ax Gb (8, 4) q1) (22, n) q2
theorem sx2_x {q1 q2 n : Nat} : Xt Gb (sx2 Gb q1 q2 n) := (Xt.ax Gb _ q1).tr (Xt.ax _ _ q2)
theorem sx2_len {q1 q2 n : Nat} : (gS (sx2 Gb q1 q2 n)).length = (gS Gb).length + 2 := by unfold sx2; rw [ax_len, ax_len]
theorem sx2_s {q1 q2 n : Nat} : (gS (sx2 Gb q1 q2 n))[(gS Gb).length]? = some (8, 4) := (Xt.ax _ _ q2).sh ax_sh
theorem sx2_r {q1 q2 n : Nat} : (gS (sx2 Gb q1 q2 n))[(gS Gb).length + 1]? = some (22, n) := by
  have h9 := @ax_sh (ax Gb (8, 4) q1) (22, n) q2
  rw [ax_len] at h9
  exact h9
theorem sx2_A {q1 q2 n : Nat} : gA (sx2 Gb q1 q2 n) (gS Gb).length = q1 ∧ gA (sx2 Gb q1 q2 n) ((gS Gb).length + 1) = q2 := by
  refine ⟨?_, ?_⟩
  · unfold sx2
    rw [ax_A (by rw [ax_len]; omega), ax_Aq]
  · have h9 := @ax_Aq (ax Gb (8, 4) q1) (22, n) q2
    rw [ax_len] at h9
    exact h9
theorem sx2_w {q1 q2 n : Nat} (hw : wfm Gb μ0) (h : SBw Gb μ0 μ' l) : wfm (sx2 Gb q1 q2 n) μ' := by
  intro o ci n2 hs hc k hk
  have hL := @sx2_len Gb q1 q2 n
  have ho := (List.getElem?_eq_some_iff.mp hs).1
  rw [hL] at ho
  by_cases h1 : o < (gS Gb).length
  · have hs' : (gS Gb)[o]? = some (ci, n2) := by
      obtain ⟨y, hy⟩ : ∃ y, (gS Gb)[o]? = some y := ⟨_, List.getElem?_eq_getElem h1⟩
      have := (@sx2_x Gb q1 q2 n).sh hy
      rw [hs] at this
      rw [hy, ← this]
    obtain ⟨w1, w2⟩ := hw o ci n2 hs' hc k hk
    rw [h.2.2 o (by omega)]
    have hR : gR (sx2 Gb q1 q2 n) = gR Gb := (@sx2_x Gb q1 q2 n).2.2.2.2.2.1
    exact ⟨fun q => by rw [hR, hL]; have := w1 q; omega, fun q => by rw [hL]; have := w2 q; omega⟩
  · by_cases h2 : o = (gS Gb).length
    · subst h2
      rw [sx2_s] at hs
      cases hs
      have h4 : ∀ k : Nat, k < 4 → am_ct 8 k ≠ 2 ∧ (2 < am_ct 8 k → k = 0) := by decide
      refine ⟨fun q => absurd q (h4 k hk).1, fun q => ?_⟩
      have := (h4 k hk).2 q
      subst this
      have h5 := h.1.1
      rw [hL]
      have h6 : μ' ((gS Gb).length : Int) ((0 : Nat) : Int) = ((gS Gb).length : Int) + 1 := h5
      rw [h6]
      omega
    · have : o = (gS Gb).length + 1 := by omega
      subst this
      rw [sx2_r] at hs
      cases hs
      exact absurd hc (by decide)
theorem bt_str {b N : Nat} {l : List Int} (hf : g_Cw M pc "java/lang/StringBuilder" M_J4_toString_0e30d 0) (hR : 6 ≤ K.1.frames ∧ 172 ≤ K.1.locals) (hroom : cs + 2 ≤ K.1.cells ∧ ss + 1000 ≤ K.1.slots) (hKA : gx_A K) (h : BT G0 μ0 G μ b N l) (hN : l.length < N ∧ N ≤ 900) (hX : Xt Gb G0) (hwb : wfm Gb μ0) (hcat : am_cs rest ≤ 8) (hol : lsok ((gS Gb).length : Int) ls) (hor : lsok ((gS Gb).length : Int) rest)
    (kk : ∀ (q1 q2 : Nat) (μ' : Mu), SBw Gb μ0 μ' l → wfm (sx2 Gb q1 q2 l.length) μ' → Gx K (sx2 Gb q1 q2 l.length) M (cs + 2) (ss + 1000) (pc + 3) ls ((2, ((gS Gb).length : Int)) :: rest) μ') : Gx K G M cs ss pc ls ((2, (b : Int)) :: rest) μ := by
  obtain ⟨hX0, hw, ⟨ρ, hb, hρ0, hρ⟩, ⟨hb0, hb3, hbN⟩, hasc, hF⟩ := id h
  have hXb : Xt Gb G := hX.tr hX0
  have hLb := hX.len
  have hL0 := hX0.len
  have hL : ((gS Gb).length : Int) ≤ ((gS G).length : Int) := by omega
  have hrl := (List.getElem?_eq_some_iff.mp hb.1.2).1
  refine x_callWX (as := []) (rest := rest) (k := 0) (mc := 2) (ms := 4 + l.length) hf ⟨Nat.le_trans (Nat.le_of_ble_eq_true rfl) hR.1, Nat.le_trans (Nat.le_of_ble_eq_true rfl) hR.2⟩ ⟨hroom.1, by omega⟩ hKA hw rfl rfl hb.1.1 rfl rfl rfl rfl rfl hcat (hol.mono hL) (hor.mono hL) (s_toStringN hb ⟨hb3, hN.1⟩ hw) (fun G' μ' r hp hx => ?_)
  obtain ⟨q1, q2, rfl, rfl, ⟨p1, p2⟩, p3, p4⟩ := hp
  have hXX : Xt Gb (sx2 G q1 q2 l.length) := hXb.tr sx2_x
  have hX2 : Xt Gb (sx2 Gb q1 q2 l.length) := sx2_x
  have hLL := @sx2_len G q1 q2 l.length
  have hL2 := @sx2_len Gb q1 q2 l.length
  have hA := @sx2_A G q1 q2 l.length
  have hA2 := @sx2_A Gb q1 q2 l.length
  have hC : gC (sx2 Gb q1 q2 l.length) = gC (sx2 G q1 q2 l.length) := hX2.2.1.trans hXX.2.1.symm
  have hS2 : SBw Gb μ0 (am_sv μ' (gS Gb).length (gS G).length) l := by
    refine ⟨⟨?_, ?_⟩, fun j hj => ?_, fun o ho => ?_⟩
    · unfold am_sv; rw [if_pos rfl, if_pos rfl]
    · unfold am_sv; rw [if_pos rfl, if_neg (by decide)]; exact p2
    · have := p3 j (by omega) (by omega)
      unfold am_sv
      rw [if_neg (by omega), if_pos rfl, this]
      exact hρ j hj
    · have e : am_sv μ' (gS Gb).length (gS G).length o = μ' o := by
        funext b'
        unfold am_sv
        rw [if_neg (by omega), if_neg (by omega)]
      rw [e, p4 o (by omega)]
      exact hF o (by omega)
  show Gx K (sx2 G q1 q2 l.length) M (cs + 2) (ss + (4 + l.length)) (pc + 3) ls ((2, ((gS G).length : Int)) :: rest) μ'
  refine Gx.widen (Nat.le_refl _) (show ss + (4 + l.length) ≤ ss + 1000 by omega) ?_
  refine Gx.re (G2 := sx2 Gb q1 q2 l.length) (μ2 := am_sv μ' (gS Gb).length (gS G).length) (ls2 := ls) (st2 := (2, ((gS Gb).length : Int)) :: rest) (fun o => if o < (gS Gb).length then o else if o = (gS Gb).length then (gS G).length else (gS G).length + 1) ⟨hX2.1.trans hXX.1.symm, hC, hX2.2.2.1.trans hXX.2.2.1.symm, hX2.2.2.2.1.trans hXX.2.2.2.1.symm, hX2.2.2.2.2.1.trans hXX.2.2.2.2.1.symm⟩ (fun o ho => ?_) (fun o o2 h1 h2 h3 => ?_) (fun p hp => ?_) ?_ (kk q1 q2 _ hS2 (sx2_w hwb hS2))
  · rw [hL2] at ho
    by_cases h1 : o < (gS Gb).length
    · simp only [if_pos h1]
      refine ⟨by omega, (hX2.2.2.2.2.2.2.2 o h1).trans (hXX.2.2.2.2.2.2.2 o h1).symm, ?_⟩
      rw [am_el_xt hX2 hwb h1 (fun k => by rw [hS2.2.2 o (by omega)]), am_el_xt hXX hwb h1 (fun k => by rw [p4 o (by omega), hF o (by omega)])]
    · by_cases h2 : o = (gS Gb).length
      · subst h2
        simp only [if_neg (Nat.lt_irrefl _), if_pos]
        refine ⟨by omega, hA2.1.trans hA.1.symm, ?_⟩
        rw [am_el_obj (sx2_s (Gb := Gb)) (by decide), am_el_obj (sx2_s (Gb := G)) (by decide)]
        have e0 : am_fv (sx2 Gb q1 q2 l.length) 8 (gS Gb).length 0 (am_sv μ' (gS Gb).length (gS G).length) = am_fv (sx2 G q1 q2 l.length) 8 (gS G).length 0 μ' := by
          show am_ref _ (am_sv μ' (gS Gb).length (gS G).length ((gS Gb).length : Int) 0) = am_ref _ (μ' ((gS G).length : Int) 0)
          rw [hS2.1.1, p1, am_ref, am_ref, if_neg (by omega), if_neg (by omega), show (((gS Gb).length : Int) + 1).toNat = (gS Gb).length + 1 by omega, show (((gS G).length : Int) + 1).toNat = (gS G).length + 1 by omega, hA2.2, hA.2]
        have ek : ∀ k : Nat, 0 < k → k < 4 → am_fv (sx2 Gb q1 q2 l.length) 8 (gS Gb).length k (am_sv μ' (gS Gb).length (gS G).length) = am_fv (sx2 G q1 q2 l.length) 8 (gS G).length k μ' := by
          intro k k0 k4
          have hv : am_sv μ' (gS Gb).length (gS G).length ((gS Gb).length : Int) (k : Int) = μ' ((gS G).length : Int) (k : Int) := by
            unfold am_sv
            rw [if_pos rfl, if_neg (by omega)]
          have ht : ∀ k : Nat, k < 4 → 0 < k → am_ct 8 k < 2 := by decide
          have := ht k k4 k0
          unfold am_fv
          rw [hv]
          match hm : am_ct 8 k, this with
          | 0, _ => rfl
          | 1, _ => rfl
        congr 2
        refine List.map_congr_left (fun k hk => ?_)
        have hk4 := List.mem_range.mp hk
        by_cases k0 : k = 0
        · subst k0; exact e0
        · exact ek k (by omega) hk4
      · have : o = (gS Gb).length + 1 := by omega
        subst this
        simp only [if_neg h1, if_neg h2]
        refine ⟨by omega, hA2.2.trans hA.2.symm, ?_⟩
        rw [am_el_row (t := 2) (sx2_r (Gb := Gb)) (by decide), am_el_row (t := 2) (sx2_r (Gb := G)) (by decide), hC]
        have e : ∀ j : Int, am_sv μ' (gS Gb).length (gS G).length (((gS Gb).length + 1 : Nat) : Int) j = μ' (((gS G).length + 1 : Nat) : Int) j := by
          intro j
          unfold am_sv
          rw [if_neg (by omega), if_pos (by omega)]
          congr 1
        simp only [e]
  · rw [hL2] at h1 h2
    by_cases c1 : o < (gS Gb).length
    · rw [if_pos c1] at h3
      by_cases c2 : o2 < (gS Gb).length
      · rw [if_pos c2] at h3; exact h3
      · rw [if_neg c2] at h3; split at h3 <;> omega
    · rw [if_neg c1] at h3
      by_cases c2 : o2 < (gS Gb).length
      · rw [if_pos c2] at h3; split at h3 <;> omega
      · rw [if_neg c2] at h3; split at h3 <;> split at h3 <;> omega
  · rw [am_l_xt hXX ls 0 hol]
    rw [am_l_xt hX2 ls 0 hol] at hp
    exact hp
  · rw [List.map_cons, List.map_cons, am_map_xt hX2 hor, am_map_xt hXX hor, am_ref_pos (by omega), am_ref_pos (by omega), show ((gS Gb).length : Int).toNat = (gS Gb).length by omega, show ((gS G).length : Int).toNat = (gS G).length by omega, hA2.1, hA.1]
end bt1
