/-! ===== The law's put(): the text, filled up with blanks, goes to the tape ===== -/
section putm
variable {G G' Gw : AG} {μ μ1 μ' : Mu} {x y c s : Int}
/-- bits of two numbers that have none in common -/
theorem ior_add {a b m : Nat} (hm : b < 2 ^ m) (h : 2 ^ m * a + b < 2147483648) : am_ior ((2 ^ m * a : Nat) : Int) ((b : Nat) : Int) = ((2 ^ m * a + b : Nat) : Int) := by
  have hb : ∀ n : Nat, n < 2147483648 → (Int32.ofInt (n : Int)).toBitVec = BitVec.ofNat 32 n := by
    intro n hn
    show BitVec.ofInt 32 (n : Int) = _
    exact BitVec.ofInt_natCast 32 n
  have h1 : (Int32.ofInt ((2 ^ m * a : Nat) : Int) ||| Int32.ofInt ((b : Nat) : Int)).toBitVec = BitVec.ofNat 32 (2 ^ m * a + b) := by
    show (Int32.ofInt ((2 ^ m * a : Nat) : Int)).toBitVec ||| (Int32.ofInt ((b : Nat) : Int)).toBitVec = _
    rw [hb _ (by omega), hb _ (by omega), Nat.two_pow_add_eq_or_of_lt hm]
    exact (BitVec.ofNat_or).symm
  unfold am_ior
  show (Int32.toBitVec _).toInt = _
  rw [h1, BitVec.toInt_ofNat', Int.bmod_eq_of_le (by omega) (by omega)]
theorem ior_i {x y q : Int} (m : Nat) (hq : ((2 ^ m : Nat) : Int) = q) (hx : 0 ≤ x ∧ x % q = 0) (hy : 0 ≤ y ∧ y < q) (h : x + y < 2147483648) (hq0 : 0 < q) : am_ior x y = x + y := by
  have e : x = q * (x / q) := by have := Int.mul_ediv_add_emod x q; omega
  obtain ⟨a, ha⟩ : ∃ a : Nat, x / q = a := ⟨(x / q).toNat, by have := Int.ediv_nonneg hx.1 (Int.le_of_lt hq0); omega⟩
  obtain ⟨b, rfl⟩ : ∃ b : Nat, y = b := ⟨y.toNat, by omega⟩
  rw [ha, ← hq] at e
  have e2 : x = ((2 ^ m * a : Nat) : Int) := by rw [e, Int.natCast_mul]
  rw [← hq] at hy
  have h9 := ior_add (a := a) (b := b) (m := m) (by omega) (by rw [e2] at h; omega)
  rw [e2, h9, Int.natCast_add]
theorem shl_c : ∀ c : Nat, c < 128 → am_ishl c 24 = (c : Int) * 16777216 ∧ am_ishl c 16 = (c : Int) * 65536 ∧ am_ishl c 8 = (c : Int) * 256 ∧ am_ishl c 0 = (c : Int) := by decide +kernel
theorem shl_ci {c : Int} (h : 0 ≤ c ∧ c ≤ 127) : am_ishl c 24 = c * 16777216 ∧ am_ishl c 16 = c * 65536 ∧ am_ishl c 8 = c * 256 ∧ am_ishl c 0 = c := by
  obtain ⟨n, rfl⟩ : ∃ n : Nat, c = n := ⟨c.toNat, by omega⟩
  exact shl_c n (by omega)
/-- a word of the tape, i of twenty bytes written -/
def wpt (f : Int → Int) (k i a : Int) : Int :=
  if i ≤ 4 * a then 0 else if i = 4 * a + 1 then f (k + 4 * a) * 16777216 else if i = 4 * a + 2 then f (k + 4 * a) * 16777216 + f (k + 4 * a + 1) * 65536
  else if i = 4 * a + 3 then f (k + 4 * a) * 16777216 + f (k + 4 * a + 1) * 65536 + f (k + 4 * a + 2) * 256 else f (k + 4 * a) * 16777216 + f (k + 4 * a + 1) * 65536 + f (k + 4 * a + 2) * 256 + f (k + 4 * a + 3)
theorem wpt_o {f : Int → Int} {k i a : Int} (h : a ≠ i / 4) : wpt f k (i + 1) a = wpt f k i a := by
  unfold wpt
  by_cases h1 : i ≤ 4 * a
  · rw [if_pos h1, if_pos (by omega)]
  · have e : 4 * a + 4 ≤ i := by omega
    rw [if_neg (by omega), if_neg (by omega), if_neg (by omega), if_neg (by omega), if_neg (by omega), if_neg (by omega), if_neg (by omega), if_neg (by omega)]
theorem wpt_s {f : Int → Int} {k i : Int} (hf : ∀ j : Int, k ≤ j → j < k + 20 → 0 ≤ f j ∧ f j ≤ 127) (hi : 0 ≤ i ∧ i < 20) : am_ior (wpt f k i (i / 4)) (am_ishl (f (k + i)) (24 - 8 * (i % 4))) = wpt f k (i + 1) (i / 4) := by
  obtain ⟨a, j, rfl, ha, hj⟩ : ∃ a j : Int, i = 4 * a + j ∧ (0 ≤ a ∧ a < 5) ∧ (0 ≤ j ∧ j < 4) := ⟨i / 4, i % 4, by omega, by omega, by omega⟩
  rw [show (4 * a + j) / 4 = a by omega, show (4 * a + j) % 4 = j by omega]
  have f0 := hf (k + 4 * a) (by omega) (by omega)
  have f1 := hf (k + 4 * a + 1) (by omega) (by omega)
  have f2 := hf (k + 4 * a + 2) (by omega) (by omega)
  have f3 := hf (k + 4 * a + 3) (by omega) (by omega)
  have hc : j = 0 ∨ j = 1 ∨ j = 2 ∨ j = 3 := by omega
  unfold wpt
  rcases hc with rfl | rfl | rfl | rfl
  · rw [if_pos (by omega), if_neg (by omega), if_pos (by omega), show k + (4 * a + 0) = k + 4 * a by omega, show (24 : Int) - 8 * 0 = 24 by decide, (shl_ci f0).1, ior_i 31 rfl ⟨by omega, by omega⟩ ⟨by omega, by omega⟩ (by omega) (by decide)]
    omega
  · rw [if_neg (by omega), if_pos (by omega), if_neg (by omega), if_neg (by omega), if_pos (by omega), show k + (4 * a + 1) = k + 4 * a + 1 by omega, show (24 : Int) - 8 * 1 = 16 by decide, (shl_ci f1).2.1, ior_i 24 rfl ⟨by omega, by omega⟩ ⟨by omega, by omega⟩ (by omega) (by decide)]
  · rw [if_neg (by omega), if_neg (by omega), if_pos (by omega), if_neg (by omega), if_neg (by omega), if_neg (by omega), if_pos (by omega), show k + (4 * a + 2) = k + 4 * a + 2 by omega, show (24 : Int) - 8 * 2 = 8 by decide, (shl_ci f2).2.2.1, ior_i 16 rfl ⟨by omega, by omega⟩ ⟨by omega, by omega⟩ (by omega) (by decide)]
  · rw [if_neg (by omega), if_neg (by omega), if_neg (by omega), if_pos (by omega), if_neg (by omega), if_neg (by omega), if_neg (by omega), if_neg (by omega), show k + (4 * a + 3) = k + 4 * a + 3 by omega, show (24 : Int) - 8 * 3 = 0 by decide, (shl_ci f3).2.2.2, ior_i 8 rfl ⟨by omega, by omega⟩ ⟨by omega, by omega⟩ (by omega) (by decide)]
theorem wpt_r {f : Int → Int} {k a : Int} (hf : ∀ j : Int, k ≤ j → j < k + 20 → 0 ≤ f j ∧ f j ≤ 127) (ha : 0 ≤ a ∧ a < 5) : wpt f k 20 a = f (k + 4 * a) * 16777216 + f (k + 4 * a + 1) * 65536 + f (k + 4 * a + 2) * 256 + f (k + 4 * a + 3) ∧ -2147483648 ≤ wpt f k 20 a ∧ wpt f k 20 a ≤ 2147483647 := by
  have f0 := hf (k + 4 * a) (by omega) (by omega)
  have f1 := hf (k + 4 * a + 1) (by omega) (by omega)
  have f2 := hf (k + 4 * a + 2) (by omega) (by omega)
  have f3 := hf (k + 4 * a + 3) (by omega) (by omega)
  have e : wpt f k 20 a = f (k + 4 * a) * 16777216 + f (k + 4 * a + 1) * 65536 + f (k + 4 * a + 2) * 256 + f (k + 4 * a + 3) := by
    unfold wpt
    rw [if_neg (by omega)]
    split
    · omega
    · split
      · omega
      · split
        · omega
        · rfl
  rw [e]
  exact ⟨rfl, by omega, by omega⟩
theorem byt_w {f : Int → Int} {k a j : Int} (hf : ∀ j : Int, k ≤ j → j < k + 20 → 0 ≤ f j ∧ f j ≤ 127) (ha : 0 ≤ a ∧ a < 5) (hj : 0 ≤ j ∧ j < 4) : byt (wpt f k 20 a) j = f (k + 4 * a + j) := by
  have f0 := hf (k + 4 * a) (by omega) (by omega)
  have f1 := hf (k + 4 * a + 1) (by omega) (by omega)
  have f2 := hf (k + 4 * a + 2) (by omega) (by omega)
  have f3 := hf (k + 4 * a + 3) (by omega) (by omega)
  rw [(wpt_r hf ha).1]
  have hc : j = 0 ∨ j = 1 ∨ j = 2 ∨ j = 3 := by omega
  unfold byt
  rcases hc with rfl | rfl | rfl | rfl
  · rw [if_pos rfl, Int.add_zero]; omega
  · rw [if_neg (by decide), if_pos rfl]; omega
  · rw [if_neg (by decide), if_neg (by decide), if_pos rfl]; omega
  · rw [if_neg (by decide), if_neg (by decide), if_neg (by decide)]; omega
/-- what feed() of these five words leaves on the tape -/
theorem fd_w {f g : Int → Int} {k : Int} (hf : ∀ j : Int, k ≤ j → j < k + 20 → 0 ≤ f j ∧ f j ≤ 127) (j : Int) : fdN g k (wpt f k 20 0) (wpt f k 20 1) (wpt f k 20 2) (wpt f k 20 3) (wpt f k 20 4) j = if k ≤ j ∧ j < k + 20 then f j else g j := by
  unfold fdN apN
  by_cases h4 : k + 16 ≤ j ∧ j < k + 20
  · rw [if_pos (by omega), if_pos (by omega), byt_w hf (by decide) (by omega)]; congr 1; omega
  · rw [if_neg (by omega)]
    by_cases h3 : k + 12 ≤ j ∧ j < k + 16
    · rw [if_pos (by omega), if_pos (by omega), byt_w hf (by decide) (by omega)]; congr 1; omega
    · rw [if_neg (by omega)]
      by_cases h2 : k + 8 ≤ j ∧ j < k + 12
      · rw [if_pos (by omega), if_pos (by omega), byt_w hf (by decide) (by omega)]; congr 1; omega
      · rw [if_neg (by omega)]
        by_cases h1 : k + 4 ≤ j ∧ j < k + 8
        · rw [if_pos (by omega), if_pos (by omega), byt_w hf (by decide) (by omega)]; congr 1; omega
        · rw [if_neg (by omega)]
          by_cases h0 : k ≤ j ∧ j < k + 4
          · rw [if_pos (by omega), if_pos (by omega), byt_w hf (by decide) (by omega)]; congr 1; omega
          · rw [if_neg (by omega), if_neg (by omega)]
theorem wfm_ch (hw : wfm G μ) (e : ∀ (o ci n : Nat), (gS G)[o]? = some (ci, n) → ci < 20 → ∀ k : Nat, k < n → 2 < am_ct ci k → μ1 o k = μ o k) : wfm G μ1 := by
  intro o ci n hs hc k hk
  obtain ⟨h1, h2⟩ := hw o ci n hs hc k hk
  exact ⟨h1, fun q => by rw [e o ci n hs hc k hk q]; exact h2 q⟩
/-- what a list tells at a place -/
def lgt (L : List Int) (j : Int) : Int := L.getD j.toNat 0
theorem lgt_a {L : List Int} {j : Int} (ha : asc L) (h : 0 ≤ j ∧ j < (L.length : Int)) : 0 ≤ lgt L j ∧ lgt L j ≤ 127 := by
  refine ha _ ?_
  unfold lgt
  rw [List.getD_eq_getElem?_getD, List.getElem?_eq_getElem (by omega)]
  exact List.getElem_mem _
/-- what put() leaves -/
def ptP (p : Int) (l : List Int) (μ0 : Mu) : AG → Option AV → Mu → Prop := fun _ r μ' => r = none ∧ CJ μ' p ∧ (∀ o : Int, o < 47 → o ≠ 1 → o ≠ 2 → μ' o = μ0 o) ∧ ((l.length : Int) ≤ μ' 1 1 ∧ μ' 1 1 ≤ 900) ∧ (∀ j : Nat, j < l.length → μ' 2 j = l.getD j 0) ∧ ∀ j : Int, 0 ≤ j → j < 900 → 0 ≤ μ' 2 j ∧ μ' 2 j ≤ 255
end putm
section putw
variable {X : AX} {G0 Gw : AG} {μ μ0 : Mu} {P : AG → Option AV → Mu → Prop} {p : Int} {o ρ : Nat} {L : List Int}
theorem put_C {q : Nat} {k : Int} (hsz : 47 ≤ (gS Gw).length) (hst : STs Gw μ o ρ L.length ∧ rwl (μ ρ) L ∧ asc L) (hw : wfm Gw μ) (hk : 0 ≤ k ∧ k + 20 ≤ (L.length : Int)) {cs ss : Nat} (hcs : cs ≤ 3000 ∧ ss ≤ 300000)
    (KK : ∀ μ2 : Mu, (∀ a : Int, 0 ≤ a → a < 5 → μ2 ((gS Gw).length : Int) a = wpt (lgt L) k 20 a) → (∀ b : Int, b ≠ ((gS Gw).length : Int) → μ2 b = μ b) → Gx (xK G0 M_L_put 3000 300000 P) (ax Gw (20, 5) q) M_L_put cs ss 95 [(2, 0), (2, 45), (2, (o : Int)), (0, k), (2, ((gS Gw).length : Int)), (9, 0)] [] μ2) :
    ∀ (f : Nat) (i : Int), (20 - i).toNat = f → 0 ≤ i ∧ i ≤ 20 → ∀ μ1 : Mu, (∀ a : Int, 0 ≤ a → a < 5 → μ1 ((gS Gw).length : Int) a = wpt (lgt L) k i a) → (∀ b : Int, b ≠ ((gS Gw).length : Int) → μ1 b = μ b) → Gx (xK G0 M_L_put 3000 300000 P) (ax Gw (20, 5) q) M_L_put cs ss 53 [(2, 0), (2, 45), (2, (o : Int)), (0, k), (2, ((gS Gw).length : Int)), (0, i)] [] μ1 := by
  obtain ⟨⟨⟨g1, g2⟩, ⟨g3, g4⟩, g5, g6⟩, hr, ha⟩ := id hst
  have hol := (List.getElem?_eq_some_iff.mp g1).1
  have hrl := (List.getElem?_eq_some_iff.mp g2).1
  have hX := Xt.ax Gw (20, 5) q
  have hls : lsok (((gS (ax Gw (20, 5) q)).length : Nat) : Int) [(2, 0), (2, 45), (2, (o : Int)), (0, k), (2, ((gS Gw).length : Int))] := by
    rw [ax_len]
    exact ⟨fun _ => (by show (0 : Int) < _; omega), fun _ => (by show (45 : Int) < _; omega), fun _ => (by show (o : Int) < _; omega), nt_no (by decide), fun _ => (by show ((gS Gw).length : Int) < _; omega), trivial⟩
  intro f
  induction f with
  | zero =>
    intro i hf hi μ1 h1 h2
    have : i = 20 := by omega
    subst this
    refine x_iload dL_put_53 rfl ?_
    refine x_bipush dL_put_55 (by decide) ?_
    refine x_icmp_ge (tgt := 95) dL_put_57 rfl (R32.in (by decide)) (R32.in (by decide)) (fun _ => ?_) (fun q => absurd q (by decide))
    exact Gx.fgl (ls' := [(2, 0), (2, 45), (2, (o : Int)), (0, k), (2, ((gS Gw).length : Int)), (9, 0)]) 5 rfl (KK μ1 h1 h2)
  | succ f ih =>
    intro i hf hi μ1 h1 h2
    have hi4 : 0 ≤ i / 4 ∧ i / 4 < 5 := by omega
    have hw1 : wfm (ax Gw (20, 5) q) μ1 := wfm_ax hw (show 20 ≤ 20 by decide) h2
    have hst1 : STs (ax Gw (20, 5) q) μ1 o ρ L.length := ⟨⟨hX.sh g1, hX.sh g2⟩, ⟨by rw [h2 o (by omega)]; exact g3, by rw [h2 o (by omega)]; exact g4⟩, g5, fun j j0 j1 => by rw [h2 ρ (by omega)]; exact g6 j j0 j1⟩
    have hc : μ1 ρ (k + i) = lgt L (k + i) := by
      have := hr (k + i).toNat (by omega)
      rw [show (((k + i).toNat : Nat) : Int) = k + i by omega] at this
      rw [h2 ρ (by omega), this]
      rfl
    refine x_iload dL_put_53 rfl ?_
    refine x_bipush dL_put_55 (by decide) ?_
    refine x_icmp_ge (tgt := 95) dL_put_57 rfl (R32.in (by omega)) (R32.in (by decide)) (fun q => absurd q (by omega)) (fun _ => ?_)
    refine x_aload dL_put_60 rfl (by omega) ?_
    refine x_iload dL_put_62 rfl ?_
    refine x_iconst dL_put_64 ?_
    refine x_idivP dL_put_65 (by omega) ?_
    refine x_dup2 dL_put_66 (by simp) (by simp) ?_
    refine x_iald dL_put_67 rfl ax_sh (by decide) hi4.1 hi4.2 ?_
    refine Gx.topE (h1 (i / 4) hi4.1 hi4.2) ?_
    refine x_aload_n dL_put_68 rfl rfl (by omega) ?_
    refine x_iload_n dL_put_69 rfl rfl ?_
    refine x_iload dL_put_70 rfl ?_
    refine x_iadd dL_put_72 ?_
    refine x_callWX (as := [(0, k + i)]) (rest := [(0, wpt (lgt L) k i (i / 4)), (0, i / 4), (2, ((gS Gw).length : Int))]) (k := 0) (mc := 0) (ms := 0) fL_put_73 ⟨Nat.le_of_ble_eq_true rfl, Nat.le_of_ble_eq_true rfl⟩ ⟨show cs + 0 ≤ 3000 by omega, show ss + 0 ≤ 300000 by omega⟩ xK_A hw1 rfl rfl hst1.1.1 rfl rfl rfl rfl rfl (Nat.le_of_ble_eq_true rfl) ⟨hls.1, hls.2.1, hls.2.2.1, hls.2.2.2.1, hls.2.2.2.2.1, nt_no (by decide), trivial⟩ ⟨nt_no (by decide), nt_no (by decide), hls.2.2.2.2.1, trivial⟩ (s_ca hst1 (by omega) hw1) (fun G' μ' r hp hx => ?_)
    obtain ⟨rfl, rfl, rfl⟩ := hp
    refine Gx.topE hc ?_
    refine x_bipush dL_put_76 (by decide) ?_
    refine x_bipush dL_put_78 (by decide) ?_
    refine x_iload dL_put_80 rfl ?_
    refine x_iconst dL_put_82 ?_
    refine x_iremP dL_put_83 (by omega) ?_
    refine x_imul dL_put_84 ?_
    refine x_isub dL_put_85 ?_
    refine x_ishl dL_put_86 ?_
    refine x_ior dL_put_87 ?_
    refine Gx.topE (wpt_s (fun j j0 j1 => lgt_a ha (by omega)) ⟨hi.1, by omega⟩) ?_
    refine x_iast dL_put_88 rfl ax_sh (by decide) hi4.1 hi4.2 ?_
    refine x_iinc (ls' := [(2, 0), (2, 45), (2, (o : Int)), (0, k), (2, ((gS Gw).length : Int)), (0, i + 1)]) dL_put_89 rfl (Nat.le_of_ble_eq_true rfl) rfl rfl ?_
    refine x_goto (tgt := 53) dL_put_92 rfl ?_
    refine ih (i + 1) (by omega) (by omega) _ (fun a a0 a1 => ?_) (fun b hb => by rw [am_up_o hb]; exact h2 b hb)
    by_cases hae : a = i / 4
    · subst hae; rw [am_up_at]
    · rw [am_up_nk hae, h1 a a0 a1, wpt_o hae]
theorem put_B (hXw : Xt (GG X) Gw) (hsz : 47 ≤ (gS Gw).length) (ho45 : 45 ≤ o ∧ 45 ≤ ρ) (hL : (L.length : Int) % 20 = 0 ∧ (L.length : Int) ≤ 200) (ha : asc L)
    (KK : ∀ μ2 : Mu, CJ μ2 p → (∀ b : Int, b ≠ 1 → b ≠ 2 → b < ((gS Gw).length : Int) → μ2 b = μ b) → μ2 1 1 = (L.length : Int) → (∀ j : Int, 0 ≤ j → j < (L.length : Int) → μ2 2 j = lgt L j) → (∀ j : Int, 0 ≤ j → j < 900 → 0 ≤ μ2 2 j ∧ μ2 2 j ≤ 255) → P Gw none μ2) (hG0 : Xt G0 Gw) (h42 : μ 42 7 < 45) :
    ∀ (f : Nat) (k : Int), (((L.length : Int) - k) / 20).toNat = f → (0 ≤ k ∧ k ≤ (L.length : Int)) ∧ k % 20 = 0 → ∀ (μ1 : Mu) (cs ss : Nat), (cs : Int) + (((L.length : Int) - k) / 20) * 1 ≤ 3000 → (ss : Int) + (((L.length : Int) - k) / 20) * 5 ≤ 300000 → CJ μ1 p → wfm Gw μ1 → STs Gw μ1 o ρ L.length ∧ rwl (μ1 ρ) L →
      (∀ b : Int, b ≠ 1 → b ≠ 2 → b < ((gS Gw).length : Int) → μ1 b = μ b) → μ1 1 1 = k → (∀ j : Int, 0 ≤ j → j < k → μ1 2 j = lgt L j) → (∀ j : Int, 0 ≤ j → j < 900 → 0 ≤ μ1 2 j ∧ μ1 2 j ≤ 255) →
      Gx (xK G0 M_L_put 3000 300000 P) Gw M_L_put cs ss 37 [(2, 0), (2, 45), (2, (o : Int)), (0, k), (9, 0), (9, 0)] [] μ1 := by
  intro f
  induction f with
  | zero =>
    intro k hf hk μ1 cs ss hcs hss hC hw hst hF h11 hb hbb
    have hke : k = (L.length : Int) := by omega
    have hol := (List.getElem?_eq_some_iff.mp hst.1.1.1).1
    refine x_iload_n dL_put_37 rfl rfl ?_
    refine x_aload_n dL_put_38 rfl rfl (by omega) ?_
    refine x_callWX (as := []) (rest := [(0, k)]) (k := 0) (mc := 0) (ms := 0) fL_put_39 ⟨Nat.le_of_ble_eq_true rfl, Nat.le_of_ble_eq_true rfl⟩ ⟨show cs + 0 ≤ 3000 by omega, show ss + 0 ≤ 300000 by omega⟩ xK_A hw rfl rfl hst.1.1.1 rfl rfl rfl rfl rfl (Nat.le_of_ble_eq_true rfl) ⟨fun _ => (by show (0 : Int) < _; omega), fun _ => (by show (45 : Int) < _; omega), fun _ => (by show (o : Int) < _; omega), nt_no (by decide), nt_no (by decide), nt_no (by decide), trivial⟩ ⟨nt_no (by decide), trivial⟩ (s_len hst.1 hw) (fun G' μ' r hp hx => ?_)
    obtain ⟨rfl, rfl, rfl⟩ := hp
    refine x_icmp_ge (tgt := 126) dL_put_42 rfl (R32.in (by omega)) (R32.in (by omega)) (fun _ => ?_) (fun q => absurd q (by omega))
    exact x_vretX dL_put_126 rfl ⟨show cs + 0 ≤ 3000 by omega, show ss + 0 ≤ 300000 by omega⟩ hG0 (KK μ' hC hF (by omega) (by rw [← hke]; exact hb) hbb)
  | succ f ih =>
    intro k hf hk μ1 cs ss hcs hss hC hw hst hF h11 hb hbb
    have hol := (List.getElem?_eq_some_iff.mp hst.1.1.1).1
    have hrl := (List.getElem?_eq_some_iff.mp hst.1.1.2).1
    have hlf : ∀ j : Int, k ≤ j → j < k + 20 → 0 ≤ lgt L j ∧ lgt L j ≤ 127 := fun j j0 j1 => lgt_a ha (by omega)
    refine x_iload_n dL_put_37 rfl rfl ?_
    refine x_aload_n dL_put_38 rfl rfl (by omega) ?_
    refine x_callWX (as := []) (rest := [(0, k)]) (k := 0) (mc := 0) (ms := 0) fL_put_39 ⟨Nat.le_of_ble_eq_true rfl, Nat.le_of_ble_eq_true rfl⟩ ⟨show cs + 0 ≤ 3000 by omega, show ss + 0 ≤ 300000 by omega⟩ xK_A hw rfl rfl hst.1.1.1 rfl rfl rfl rfl rfl (Nat.le_of_ble_eq_true rfl) ⟨fun _ => (by show (0 : Int) < _; omega), fun _ => (by show (45 : Int) < _; omega), fun _ => (by show (o : Int) < _; omega), nt_no (by decide), nt_no (by decide), nt_no (by decide), trivial⟩ ⟨nt_no (by decide), trivial⟩ (s_len hst.1 hw) (fun G' μ' r hp hx => ?_)
    obtain ⟨rfl, rfl, rfl⟩ := hp
    refine x_icmp_ge (tgt := 126) dL_put_42 rfl (R32.in (by omega)) (R32.in (by omega)) (fun q => absurd q (by omega)) (fun _ => ?_)
    refine x_iconst dL_put_45 ?_
    refine x_newaI (N := 5) xK_A ⟨show cs + 0 + 1 ≤ 3000 by omega, show ss + 0 + 5 ≤ 300000 by omega⟩ dL_put_46 k_97 rfl (by decide) hw ⟨fun _ => (by show (0 : Int) < _; omega), fun _ => (by show (45 : Int) < _; omega), fun _ => (by show (o : Int) < _; omega), nt_no (by decide), nt_no (by decide), nt_no (by decide), trivial⟩ trivial (fun q => ?_)
    refine x_astore (ls' := [(2, 0), (2, 45), (2, (o : Int)), (0, k), (2, ((gS G').length : Int)), (9, 0)]) dL_put_48 (Nat.le_of_ble_eq_true rfl) rfl (by omega) rfl ?_
    refine x_iconst dL_put_50 ?_
    refine x_istore (ls' := [(2, 0), (2, 45), (2, (o : Int)), (0, k), (2, ((gS G').length : Int)), (0, 0)]) dL_put_51 (Nat.le_of_ble_eq_true rfl) rfl rfl ?_
    have hX := Xt.ax G' (20, 5) q
    have hnw : ∀ b : Int, b ≠ ((gS G').length : Int) → am_nw μ' (gS G').length b = μ' b := fun b hb => am_nw_o hb
    refine put_C (q := q) hsz ⟨hst.1, hst.2, ha⟩ hw ⟨hk.1.1, by omega⟩ ⟨show cs + 0 + 1 ≤ 3000 by omega, show ss + 0 + 5 ≤ 300000 by omega⟩ (fun μ2 hW hR => ?_) 20 0 rfl (by decide) _ (fun a a0 a1 => ?_) hnw
    · have e0 := hW 0 (by decide) (by decide)
      have e1 := hW 1 (by decide) (by decide)
      have e2 := hW 2 (by decide) (by decide)
      have e3 := hW 3 (by decide) (by decide)
      have e4 := hW 4 (by decide) (by decide)
      have r0 := (wpt_r hlf (a := 0) (by decide)).2
      have r1 := (wpt_r hlf (a := 1) (by decide)).2
      have r2 := (wpt_r hlf (a := 2) (by decide)).2
      have r3 := (wpt_r hlf (a := 3) (by decide)).2
      have r4 := (wpt_r hlf (a := 4) (by decide)).2
      have hp := hC.i.at
      have hC2 : CJ μ2 p := hC.cg (fun b hb => hR b (by omega))
      have h112 : μ2 1 1 = k := by rw [hR 1 (by omega)]; exact h11
      refine x_aload_n dL_put_95 rfl rfl (by decide) ?_
      refine x_aload dL_put_96 rfl (by omega) ?_
      refine x_iconst dL_put_98 ?_
      refine x_ialdx dL_put_99 rfl ax_sh (by decide) (by decide) e0 ?_
      refine x_aload dL_put_100 rfl (by omega) ?_
      refine x_iconst dL_put_102 ?_
      refine x_ialdx dL_put_103 rfl ax_sh (by decide) (by decide) e1 ?_
      refine x_aload dL_put_104 rfl (by omega) ?_
      refine x_iconst dL_put_106 ?_
      refine x_ialdx dL_put_107 rfl ax_sh (by decide) (by decide) e2 ?_
      refine x_aload dL_put_108 rfl (by omega) ?_
      refine x_iconst dL_put_110 ?_
      refine x_ialdx dL_put_111 rfl ax_sh (by decide) (by decide) e3 ?_
      refine x_aload dL_put_112 rfl (by omega) ?_
      refine x_iconst dL_put_114 ?_
      refine x_ialdx dL_put_115 rfl ax_sh (by decide) (by decide) e4 ?_
      have hwX : wfm (GG X) μ2 := wf_cj Xt.rf ARR_GG hC2 (by rw [hR 42 (by omega), hF 42 (by decide) (by decide) (by omega)]; exact h42)
      refine x_callVI (o := 0) (ci := 7) (as := [(0, wpt (lgt L) k 20 0), (0, wpt (lgt L) k 20 1), (0, wpt (lgt L) k 20 2), (0, wpt (lgt L) k 20 3), (0, wpt (lgt L) k 20 4)]) (rest := []) (k := 0) (Gs := GG X) fL_put_116.g ⟨Nat.le_of_ble_eq_true rfl, Nat.le_of_ble_eq_true rfl⟩ ⟨show cs + 0 + 1 ≤ 3000 by omega, show ss + 0 + 5 ≤ 300000 by omega⟩ xK_A (hXw.tr hX) hwX rfl rfl rfl rfl rfl rfl rfl rfl (Nat.le_of_ble_eq_true rfl) ⟨nt_no (by decide), nt_no (by decide), nt_no (by decide), nt_no (by decide), nt_no (by decide), trivial⟩ (by decide) (s_X7_feed X p _ _ _ _ _ μ2 hC2 r0 r1 r2 r3 r4 (by omega)) (fun x9 μ9 h9 => ⟨wf_cj Xt.rf ARR_GG (hC2.cg (fun b hb => h9.1.at (by omega) (by omega))) (by rw [h9.1.at (o := 42) (by decide) (by decide), hR 42 (by omega), hF 42 (by decide) (by decide) (by omega)]; exact h42), fun b hb => h9.1.at (by have h8 : (45 : Int) ≤ b := hb; omega) (by have h8 : (45 : Int) ≤ b := hb; omega)⟩) (fun x3 μ3 h3 => ?_)
      obtain ⟨hF3, hfd⟩ := h3
      rcases hfd with ⟨-, -, hs3, hb3⟩ | ⟨hbad, -⟩
      case inr => exact absurd hbad (by omega)
      refine x_pop dL_put_119 (show (0 : Nat) ≠ 1 by decide) ?_
      refine x_iinc (ls' := [(2, 0), (2, 45), (2, (o : Int)), (0, k + 20), (2, ((gS G').length : Int)), (9, 0)]) dL_put_120 rfl (Nat.le_of_ble_eq_true rfl) rfl rfl ?_
      refine x_goto (tgt := 37) dL_put_123 rfl ?_
      refine Gx.fgl (ls' := [(2, 0), (2, 45), (2, (o : Int)), (0, k + 20), (9, 0), (9, 0)]) 4 rfl ?_
      have hoo : ∀ b : Int, b ≠ 1 → b ≠ 2 → b < ((gS G').length : Int) → μ3 b = μ' b := fun b b1 b2 b3 => by rw [hF3.at (by omega) (by omega), hR b (by omega)]
      have hw3 : wfm G' μ3 := by
        refine wfm_ch hw (fun o2 ci n2 hs hci k2 hk2 hct => ?_)
        have ho2 := (List.getElem?_eq_some_iff.mp hs).1
        by_cases c1 : o2 = 1
        · subst c1
          have h9 : (gS G')[1]? = some (5, 2) := hXw.sh (show (gS (GG X))[1]? = some (5, 2) from rfl)
          rw [hs] at h9
          cases h9
          have h8 : ∀ k : Nat, k < 2 → ¬ 2 < am_ct 5 k := by decide
          exact absurd hct (h8 k2 hk2)
        · by_cases c2 : o2 = 2
          · subst c2
            have h9 : (gS G')[2]? = some (20, 900) := hXw.sh (show (gS (GG X))[2]? = some (20, 900) from rfl)
            rw [hs] at h9
            cases h9
            exact absurd hci (by decide)
          · rw [hoo o2 (by omega) (by omega) (by omega)]
      refine Gx.drop hw3 ⟨fun _ => (by show (0 : Int) < _; omega), fun _ => (by show (45 : Int) < _; omega), fun _ => (by show (o : Int) < _; omega), nt_no (by decide), nt_no (by decide), nt_no (by decide), trivial⟩ trivial ?_
      have hb' : ∀ j : Int, μ3 2 j = if k ≤ j ∧ j < k + 20 then lgt L j else μ' 2 j := fun j => by
        rw [hb3, h112, fd_w hlf j, hR 2 (by omega)]
      refine ih (k + 20) (by omega) (by omega) μ3 (cs + 0 + 1) (ss + 0 + 5) (by omega) (by omega) (hC2.cg (fun b hb => hF3.at (by omega) (by omega))) hw3 ⟨⟨hst.1.1, ⟨by rw [hoo o (by omega) (by omega) (by omega)]; exact hst.1.2.1.1, by rw [hoo o (by omega) (by omega) (by omega)]; exact hst.1.2.1.2⟩, hst.1.2.2.1, fun j j0 j1 => by rw [hoo ρ (by omega) (by omega) (by omega)]; exact hst.1.2.2.2 j j0 j1⟩, by rw [hoo ρ (by omega) (by omega) (by omega)]; exact hst.2⟩ (fun b b1 b2 b3 => (hoo b b1 b2 b3).trans (hF b b1 b2 b3)) (by omega) (fun j j0 j1 => ?_) (fun j j0 j1 => ?_)
      · rw [hb']
        split
        · rfl
        · exact hb j j0 (by omega)
      · rw [hb']
        split
        · have := hlf j (by omega) (by omega); omega
        · exact hbb j j0 j1
    · rw [am_nw_at]
      unfold wpt
      rw [if_pos (by omega)]
end putw
section puta
variable {X : AX} {G0 Gw : AG} {μ μ0 : Mu} {p : Int}
theorem getD_pre {l L' : List Int} {j : Nat} (h : j < l.length) : (l ++ L').getD j 0 = l.getD j 0 := getD_l h
theorem put_A {l : List Int} {G : AG} (hXG : Xt (GG X) G) (hsz : (gS G).length = 47) (hw : wfm G μ) (hC : CJ μ p) (h42 : μ 42 7 < 45) (h11 : μ 1 1 = 0) (hbb : ∀ j : Int, 0 ≤ j → j < 900 → 0 ≤ μ 2 j ∧ μ 2 j ≤ 255) :
    ∀ (f : Nat) (Gw : AG) (o ρ : Nat) (L : List Int) (μ1 : Mu) (cs ss : Nat), (20 - L.length % 20) % 20 = f → Xt G Gw → (45 ≤ o ∧ 45 ≤ ρ) → wfm Gw μ1 → STs Gw μ1 o ρ L.length ∧ rwl (μ1 ρ) L ∧ asc L → (∀ b : Int, b < ((gS G).length : Int) → μ1 b = μ b) → (46 ≤ L.length ∧ L.length + f ≤ 180) → cs + 10 * f ≤ 2500 → ss + 4000 * f ≤ 200000 →
      l.length ≤ L.length → (∀ j : Nat, j < l.length → L.getD j 0 = l.getD j 0) →
      Gx (xK G M_L_put 3000 300000 (ptP p l μ)) Gw M_L_put cs ss 2 [(2, 0), (2, 45), (2, (o : Int)), (9, 0), (9, 0), (9, 0)] [] μ1 := by
  intro f
  have hend : ∀ (Gw : AG) (o ρ : Nat) (L : List Int) (μ1 : Mu) (cs ss : Nat), L.length % 20 = 0 → Xt G Gw → (45 ≤ o ∧ 45 ≤ ρ) → wfm Gw μ1 → STs Gw μ1 o ρ L.length ∧ rwl (μ1 ρ) L ∧ asc L → (∀ b : Int, b < ((gS G).length : Int) → μ1 b = μ b) → L.length ≤ 180 → cs ≤ 2500 → ss ≤ 200000 →
      l.length ≤ L.length → (∀ j : Nat, j < l.length → L.getD j 0 = l.getD j 0) →
      Gx (xK G M_L_put 3000 300000 (ptP p l μ)) Gw M_L_put cs ss 35 [(2, 0), (2, 45), (2, (o : Int)), (9, 0), (9, 0), (9, 0)] [] μ1 := by
    intro Gw o ρ L μ1 cs ss h20 hX ho hw1 hst hF hL hcs hss hl hlj
    have hlen := hX.len
    have hp := hC.i.at
    refine x_iconst dL_put_35 ?_
    refine x_istore_n (ls' := [(2, 0), (2, 45), (2, (o : Int)), (0, 0), (9, 0), (9, 0)]) dL_put_36 rfl (Nat.le_of_ble_eq_true rfl) rfl rfl ?_
    refine put_B (X := X) (μ := μ1) (p := p) (hXG.tr hX) (by omega) ho ⟨by omega, by omega⟩ hst.2.2 (fun μ2 h1 h2 h3 h4 h5 => ?_) hX (by rw [hF 42 (by omega)]; exact h42) _ 0 rfl ⟨by omega, by decide⟩ μ1 cs ss (by omega) (by omega) (hC.cg (fun b hb => hF b (by omega))) hw1 ⟨hst.1, hst.2.1⟩ (fun b _ _ _ => rfl) (by rw [hF 1 (by omega)]; exact h11) (fun j j0 j1 => absurd j1 (by omega)) (fun j j0 j1 => by rw [hF 2 (by omega)]; exact hbb j j0 j1)
    refine ⟨rfl, h1, fun b b0 b1 b2 => (h2 b b1 b2 (by omega)).trans (hF b (by omega)), ⟨by omega, by omega⟩, fun j hj => ?_, h5⟩
    rw [h4 j (by omega) (by omega)]
    show L.getD ((j : Int)).toNat 0 = _
    rw [Int.toNat_natCast]
    exact hlj j hj
  have hlenp : ∀ (Gw : AG) (o ρ : Nat) (L : List Int) (μ1 : Mu) (cs ss : Nat), (gS G).length ≤ (gS Gw).length → wfm Gw μ1 → STs Gw μ1 o ρ L.length → L.length ≤ 180 → cs ≤ 2500 → ss ≤ 200000 →
      (L.length % 20 = 0 → Gx (xK G M_L_put 3000 300000 (ptP p l μ)) Gw M_L_put cs ss 35 [(2, 0), (2, 45), (2, (o : Int)), (9, 0), (9, 0), (9, 0)] [] μ1) → (¬ L.length % 20 = 0 → Gx (xK G M_L_put 3000 300000 (ptP p l μ)) Gw M_L_put cs ss 12 [(2, 0), (2, 45), (2, (o : Int)), (9, 0), (9, 0), (9, 0)] [] μ1) →
      Gx (xK G M_L_put 3000 300000 (ptP p l μ)) Gw M_L_put cs ss 2 [(2, 0), (2, 45), (2, (o : Int)), (9, 0), (9, 0), (9, 0)] [] μ1 := by
    intro Gw o ρ L μ1 cs ss hlen hw1 hst hL hcs hss k1 k2
    have hol := (List.getElem?_eq_some_iff.mp hst.1.1).1
    refine x_aload_n dL_put_2 rfl rfl (by omega) ?_
    refine x_callWX (as := []) (rest := []) (k := 0) (mc := 0) (ms := 0) fL_put_3 ⟨Nat.le_of_ble_eq_true rfl, Nat.le_of_ble_eq_true rfl⟩ ⟨show cs + 0 ≤ 3000 by omega, show ss + 0 ≤ 300000 by omega⟩ xK_A hw1 rfl rfl hst.1.1 rfl rfl rfl rfl rfl (Nat.le_of_ble_eq_true rfl) ⟨fun _ => (by show (0 : Int) < _; omega), fun _ => (by show (45 : Int) < _; omega), fun _ => (by show (o : Int) < _; omega), nt_no (by decide), nt_no (by decide), nt_no (by decide), trivial⟩ trivial (s_len hst hw1) (fun G' μ' r hp hx => ?_)
    obtain ⟨rfl, rfl, rfl⟩ := hp
    refine x_bipush dL_put_6 (by decide) ?_
    refine x_iremP dL_put_8 (by omega) ?_
    refine x_if_eq (tgt := 35) dL_put_9 rfl (R32.in (by omega)) (fun q => k1 (by omega)) (fun q => k2 (by omega))
  induction f with
  | zero =>
    intro Gw o ρ L μ1 cs ss hf hX ho hw1 hst hF hL hcs hss hl hlj
    have h20 : L.length % 20 = 0 := by omega
    exact hlenp Gw o ρ L μ1 cs ss hX.len hw1 hst.1 (by omega) (by omega) (by omega) (fun _ => hend Gw o ρ L μ1 cs ss h20 hX ho hw1 hst hF (by omega) (by omega) (by omega) hl hlj) (fun q => absurd h20 q)
  | succ f ih =>
    intro Gw o ρ L μ1 cs ss hf hX ho hw1 hst hF hL hcs hss hl hlj
    have hlen := hX.len
    have hol := (List.getElem?_eq_some_iff.mp hst.1.1.1).1
    have h20 : ¬ L.length % 20 = 0 := by omega
    refine hlenp Gw o ρ L μ1 cs ss hX.len hw1 hst.1 (by omega) (by omega) (by omega) (fun q => absurd q h20) (fun _ => ?_)
    have hls : lsok (((gS Gw).length : Nat) : Int) [(2, 0), (2, 45), (2, (o : Int)), (9, 0), (9, 0), (9, 0)] := ⟨fun _ => (by show (0 : Int) < _; omega), fun _ => (by show (45 : Int) < _; omega), fun _ => (by show (o : Int) < _; omega), nt_no (by decide), nt_no (by decide), nt_no (by decide), trivial⟩
    have r1 : cs + 2 + 1 ≤ 3000 ∧ ss + 20 + 1000 ≤ 300000 := by omega
    have r2 : cs + 2 + 1 + 1 ≤ 3000 ∧ ss + 20 + 1000 + 1000 ≤ 300000 := by omega
    have r3 : cs + 2 + 1 + 1 + 2 ≤ 3000 ∧ ss + 20 + 1000 + 1000 + 1000 ≤ 300000 := by omega
    have r4 : cs + 2 + 1 + 1 + 2 + 10 * f ≤ 2500 ∧ ss + 20 + 1000 + 1000 + 1000 + 4000 * f ≤ 200000 := by omega
    have e1 : (([] : List Int) ++ L).length = L.length := rfl
    have e2 : (([] : List Int) ++ L ++ ltx 0).length = L.length + 1 := by rw [List.length_append, ltx_l0, e1]
    refine bt_new fL_put_12 dL_put_15 fL_put_16 ⟨Nat.le_of_ble_eq_true rfl, Nat.le_of_ble_eq_true rfl⟩ ⟨show cs + 2 ≤ 3000 by omega, show ss + 20 ≤ 300000 by omega⟩ xK_A hw1 (Nat.le_of_ble_eq_true rfl) hls trivial (fun G1 μ2 hB0 => ?_)
    refine x_aload_n dL_put_19 rfl rfl (by omega) ?_
    refine bt_appS (l' := L) fL_put_20 ⟨Nat.le_of_ble_eq_true rfl, Nat.le_of_ble_eq_true rfl⟩ r1 xK_A hB0 hst ⟨by decide, by show 0 + L.length ≤ 400; omega⟩ rfl (Nat.le_of_ble_eq_true rfl) hls trivial (fun G2 μ3 N1 hN1 hB1 => ?_)
    have n1 : N1 = L.length := by
      unfold nxN at hN1
      have e0 : (([] : List Int).length : Int) = 0 := rfl
      rw [e0] at hN1
      omega
    refine x_ldcL (i := 0) (q := (21, " ")) dL_put_23 rfl rfl rfl ?_
    refine bt_appL (i := 0) fL_put_25 ⟨Nat.le_of_ble_eq_true rfl, Nat.le_of_ble_eq_true rfl⟩ r2 xK_A hB1 (by decide) ⟨by omega, by omega⟩ rfl (Nat.le_of_ble_eq_true rfl) hls trivial (fun G3 μ4 N2 hN2 hB2 => ?_)
    have n2 : N2 = 2 * L.length + 2 := by
      unfold nxN at hN2
      rw [e1, ltx_l0] at hN2
      omega
    refine Gx.fgl (ls' := [(2, 0), (2, 45), (9, 0), (9, 0), (9, 0), (9, 0)]) 2 rfl ?_
    refine bt_str (Gb := G) fL_put_28 ⟨Nat.le_of_ble_eq_true rfl, Nat.le_of_ble_eq_true rfl⟩ r3 xK_A hB2 ⟨by omega, by omega⟩ hX (wfm_cg hw hF) (Nat.le_of_ble_eq_true rfl) ⟨fun _ => (by show (0 : Int) < _; omega), fun _ => (by show (45 : Int) < _; omega), nt_no (by decide), nt_no (by decide), nt_no (by decide), nt_no (by decide), trivial⟩ trivial (fun q3 q4 μ5 hS5 hw5 => ?_)
    refine x_astore_n (ls' := [(2, 0), (2, 45), (2, ((gS G).length : Int)), (9, 0), (9, 0), (9, 0)]) dL_put_31 rfl (Nat.le_of_ble_eq_true rfl) rfl (by omega) rfl ?_
    refine x_goto (tgt := 2) dL_put_32 rfl ?_
    have ha' := hB2.2.2.2.2.1
    have hr5 : rwl (μ5 (((gS G).length + 1 : Nat) : Int)) (([] : List Int) ++ L ++ ltx 0) := hS5.2.1
    refine ih (sx2 G q3 q4 (([] : List Int) ++ L ++ ltx 0).length) (gS G).length ((gS G).length + 1) (([] : List Int) ++ L ++ ltx 0) μ5 _ _ (by omega) sx2_x (by omega) hw5 ⟨⟨⟨sx2_s, sx2_r⟩, ⟨hS5.1.1, hS5.1.2⟩, by omega, fun i i0 i1 => ?_⟩, hr5, ha'⟩ (fun b hb => (hS5.2.2 b hb).trans (hF b hb)) (by omega) r4.1 r4.2 (by omega) (fun j hj => ?_)
    · obtain ⟨j, rfl⟩ : ∃ j : Nat, i = j := ⟨i.toNat, by omega⟩
      rw [hr5 j (by omega)]
      have := lgt_a (j := (j : Int)) ha' (by omega)
      exact this
    · rw [getD_l (by rw [e1]; omega)]
      exact hlj j hj
theorem s_L_put {l : List Int} {q1 q2 : Nat} (hw : wfm (sx2 (GG X) q1 q2 l.length) μ) (hC : CJ μ p) (h42 : μ 42 7 < 45) (h11 : μ 1 1 = 0) (hbb : ∀ j : Int, 0 ≤ j → j < 900 → 0 ≤ μ 2 j ∧ μ 2 j ≤ 255) (hS : SBw (GG X) μ0 μ l) (ha : asc l) (hl : 46 ≤ l.length ∧ l.length ≤ 160) :
    Gx (xK (sx2 (GG X) q1 q2 l.length) M_L_put 3000 300000 (ptP p l μ)) (sx2 (GG X) q1 q2 l.length) M_L_put 0 0 0 [(2, 0), (2, 45), (9, 0), (9, 0), (9, 0), (9, 0)] [] μ := by
  have hsz : (gS (sx2 (GG X) q1 q2 l.length)).length = 47 := sx2_len
  refine x_aload_n dL_put_0 rfl rfl (by decide) ?_
  refine x_astore_n (ls' := [(2, 0), (2, 45), (2, ((45 : Nat) : Int)), (9, 0), (9, 0), (9, 0)]) dL_put_1 rfl (Nat.le_of_ble_eq_true rfl) rfl (by decide) rfl ?_
  have hr : rwl (μ ((46 : Nat) : Int)) l := hS.2.1
  refine put_A (X := X) (l := l) sx2_x hsz hw hC h42 h11 hbb _ (sx2 (GG X) q1 q2 l.length) 45 46 l μ 0 0 rfl Xt.rf (by decide) hw ⟨⟨⟨sx2_s (Gb := GG X), sx2_r (Gb := GG X)⟩, ⟨hS.1.1, hS.1.2⟩, by omega, fun i i0 i1 => ?_⟩, hr, ha⟩ (fun b _ => rfl) (by omega) (by omega) (by omega) (Nat.le_refl _) (fun j _ => rfl)
  obtain ⟨j, rfl⟩ : ∃ j : Nat, i = j := ⟨i.toNat, by omega⟩
  rw [hr j (by omega)]
  have := lgt_a (j := (j : Int)) ha (by omega)
  exact this
end puta
