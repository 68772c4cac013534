section gxs7
variable {K : XKt} {G G2 : AG} {M M2 : AMeth} {cs ss pc mc ms : Nat} {ls ls2 st rest as : List AV} {μ : Mu} {k n : Nat} {P : AG → Option AV → Mu → Prop} {C : String}
theorem shr_0 {a : Int} (h : R32 a) : am_ishr a 0 = a := by
  unfold am_ishr
  have e : (Int32.ofInt 0 &&& 31) = 0 := by decide
  rw [e]
  simp [h.eq]
theorem shl_0 {a : Int} (h : R32 a) : am_ishl a 0 = a := by
  unfold am_ishl
  have e : (Int32.ofInt 0 &&& 31) = 0 := by decide
  rw [e]
  simp [h.eq]
theorem x_shr0 {a b : Int} (hd : decode M.2.1 pc = .ok (.ishr, 1)) (ha : R32 a) (hb : b = 0) (kk : Gx K G M cs ss (pc + 1) ls ((0, a) :: st) μ) : Gx K G M cs ss pc ls ((0, b) :: (0, a) :: st) μ := by
  subst hb
  refine x_ishr hd ?_
  rw [shr_0 ha]
  exact kk
theorem x_shl0 {a b : Int} (hd : decode M.2.1 pc = .ok (.ishl, 1)) (ha : R32 a) (hb : b = 0) (kk : Gx K G M cs ss (pc + 1) ls ((0, a) :: st) μ) : Gx K G M cs ss pc ls ((0, b) :: (0, a) :: st) μ := by
  subst hb
  refine x_ishl hd ?_
  rw [shl_0 ha]
  exact kk
theorem x_obj {idx : Nat} {z : Int} (hd : decode M.2.1 pc = .ok (.invokespecial idx, 3)) (h0 : 0 ≤ z) (h1 : Cond.methodLink M.1.cls idx Lib.objectInit ∈ TW) (h2 : Cond.instanceMethod Lib.objectInit ∈ TW) (h3 : Cond.code Lib.objectInit ⟨#[0xb1]⟩ 1 none ∈ TW) (hR : 1 ≤ K.1.frames ∧ 30 ≤ K.1.locals) (hcat : am_cs st ≤ 8) (kk : Gx K G M cs ss (pc + 3) ls st μ) : Gx K G M cs ss pc ls ((2, z) :: st) μ := by
  intro p e s m args below meth c H locs lsA hI
  obtain ⟨hX, hK, hP, hD, hS, hE, hl⟩ := id hI
  have hts := hX.2.2.2.2.1
  rw [List.map_cons, am_ref_pos h0]
  have h9 : (List.map (fun v => v.category) (st.map (am_c G))).sum ≤ 8 := by rw [am_cs_eq]; exact hcat
  refine W.objInit hX.1 hX.2.1 hX.2.2.2.1 (hts _ h1) (hts _ h2) (hts _ h3) rfl (by rw [hX.2.2.1]; exact hl.1) rfl hd hR.1 (by show 2 * 0 + _ + 12 ≤ _; omega) ?_
  exact kk p e s m args below meth c H locs lsA hI
/-- nothing is changed -/
def puP (G : AG) (μ : Mu) (v : Option AV) : AG → Option AV → Mu → Prop := fun G' r μ' => G' = G ∧ r = v ∧ μ' = μ
theorem s_J5_length {b : Nat} (h : (gS G)[b]? = some (9, 4)) : Gx (xK G M_J5_length_8abf5 0 0 (puP G μ (some (0, μ b 3)))) G M_J5_length_8abf5 0 0 0 [(2, (b : Int))] [] μ := by
  refine x_aload_n dJ5_length_8abf5_0 rfl rfl (by omega) ?_
  refine x_getI (f := 3) fJ5_length_8abf5_1 rfl h (by decide) rfl ?_
  exact x_iretX dJ5_length_8abf5_4 rfl ⟨Nat.le_refl _, Nat.le_refl _⟩ Xt.rf ⟨rfl, rfl, rfl⟩
theorem s_J4_length {b : Nat} (h : (gS G)[b]? = some (9, 4)) (hw : wfm G μ) : Gx (xK G M_J4_length_8abf5 0 0 (puP G μ (some (0, μ b 3)))) G M_J4_length_8abf5 0 0 0 [(2, (b : Int))] [] μ := by
  have hb := (List.getElem?_eq_some_iff.mp h).1
  refine x_aload_n dJ4_length_8abf5_0 rfl rfl (by omega) ?_
  refine x_callUX (C := "java/lang/StringBuilder") (as := []) (rest := []) (k := 0) fJ4_length_8abf5_1 ⟨Nat.le_of_ble_eq_true rfl, Nat.le_of_ble_eq_true rfl⟩ ⟨Nat.le_refl _, Nat.le_refl _⟩ xK_A hw rfl rfl h rfl rfl rfl rfl rfl (Nat.le_of_ble_eq_true rfl) ⟨fun _ => (by omega), trivial⟩ trivial (s_J5_length h) (fun G' μ' r hp hx => ?_)
  obtain ⟨rfl, rfl, rfl⟩ := hp
  exact x_iretX dJ4_length_8abf5_4 rfl ⟨Nat.le_refl _, Nat.le_refl _⟩ Xt.rf ⟨rfl, rfl, rfl⟩
theorem s_J5_getValue {b : Nat} (h : (gS G)[b]? = some (9, 4)) : Gx (xK G M_J5_getValue_6d5f1 0 0 (puP G μ (some (2, μ b 0)))) G M_J5_getValue_6d5f1 0 0 0 [(2, (b : Int))] [] μ := by
  refine x_aload_n dJ5_getValue_6d5f1_0 rfl rfl (by omega) ?_
  refine x_getD (f := 0) fJ5_getValue_6d5f1_1 rfl h rfl rfl ?_
  exact x_aret dJ5_getValue_6d5f1_4 rfl (Or.inr ⟨_, rfl⟩) ⟨Nat.le_refl _, Nat.le_refl _⟩ Xt.rf ⟨rfl, rfl, rfl⟩
theorem s_J5_isLatin1 {b : Nat} (h : (gS G)[b]? = some (9, 4)) (h1 : μ b 1 = 0) : Gx (xK G M_J5_isLatin1_aae02 0 0 (puP G μ (some (0, 1)))) G M_J5_isLatin1_aae02 0 0 0 [(2, (b : Int))] [] μ := by
  refine x_getsW dJ5_isLatin1_aae02_0 kw_cs ?_
  refine x_if_eq (tgt := 17) dJ5_isLatin1_aae02_3 rfl (R32.in (by decide)) (fun h => absurd h (by decide)) (fun _ => ?_)
  refine x_aload_n dJ5_isLatin1_aae02_6 rfl rfl (by omega) ?_
  refine x_getI (f := 1) fJ5_isLatin1_aae02_7 rfl h (by decide) rfl ?_
  refine x_if_ne (tgt := 17) dJ5_isLatin1_aae02_10 rfl (by rw [h1]; exact R32.in (by decide)) (fun h => absurd h1 h) (fun _ => ?_)
  refine x_iconst dJ5_isLatin1_aae02_13 ?_
  refine x_goto (tgt := 18) dJ5_isLatin1_aae02_14 rfl ?_
  exact x_zretX dJ5_isLatin1_aae02_18 rfl (Or.inr rfl) ⟨Nat.le_refl _, Nat.le_refl _⟩ Xt.rf ⟨rfl, rfl, rfl⟩
theorem s_J8_newLength {a b c : Int} (ha : 0 ≤ a ∧ a ≤ 100000) (hb : 0 ≤ b ∧ b ≤ 100000) (hc : 1 ≤ c ∧ c ≤ 200002) : Gx (xK G M_J8_newLength_cabcc 0 0 (puP G μ (some (0, a + max b c)))) G M_J8_newLength_cabcc 0 0 0 [(0, a), (0, b), (0, c), (9, 0)] [] μ := by
  refine x_iload_n dJ8_newLength_cabcc_0 rfl rfl ?_
  refine x_iload_n dJ8_newLength_cabcc_1 rfl rfl ?_
  refine x_iload_n dJ8_newLength_cabcc_2 rfl rfl ?_
  refine x_max fJ8_newLength_cabcc_3 (R32.in (by omega)) (R32.in (by omega)) (Nat.le_of_ble_eq_true rfl) ⟨Nat.le_of_ble_eq_true rfl, Nat.le_of_ble_eq_true rfl, Nat.le_refl _, Nat.le_refl _⟩ ?_
  refine x_iadd dJ8_newLength_cabcc_6 ?_
  refine x_istore_n (ls' := [(0, a), (0, b), (0, c), (0, a + max b c)]) dJ8_newLength_cabcc_7 rfl (Nat.le_of_ble_eq_true rfl) rfl rfl ?_
  refine x_iconst dJ8_newLength_cabcc_8 ?_
  refine x_iload_n dJ8_newLength_cabcc_9 rfl rfl ?_
  refine x_icmp_ge (tgt := 21) dJ8_newLength_cabcc_10 rfl (R32.in (by decide)) (R32.in (by omega)) (fun h => absurd h (by omega)) (fun _ => ?_)
  refine x_iload_n dJ8_newLength_cabcc_13 rfl rfl ?_
  refine x_ldc (n := 2147483639) dJ8_newLength_cabcc_14 kw_soft rfl ?_
  refine x_icmp_gt (tgt := 21) dJ8_newLength_cabcc_16 rfl (R32.in (by omega)) (R32.in (by decide)) (fun h => absurd h (by omega)) (fun _ => ?_)
  refine x_iload_n dJ8_newLength_cabcc_19 rfl rfl ?_
  exact x_iretX dJ8_newLength_cabcc_20 rfl ⟨Nat.le_refl _, Nat.le_refl _⟩ Xt.rf ⟨rfl, rfl, rfl⟩
end gxs7
section gxs8
variable {K : XKt} {G G2 : AG} {M M2 : AMeth} {cs ss pc mc ms : Nat} {ls ls2 st rest as : List AV} {μ : Mu} {k n : Nat} {P : AG → Option AV → Mu → Prop} {C : String}
theorem wfm_ax {x : Nat × Nat} {q : Nat} {μ' : Mu} (hw : wfm G μ) (hx : 20 ≤ x.1) (hm : ∀ o : Int, o ≠ ((gS G).length : Int) → μ' o = μ o) : wfm (ax G x q) μ' := by
  intro o ci n hs hci k hk
  rw [ax_len]
  have ho : o < (gS G).length ∨ o = (gS G).length := by
    have := (List.getElem?_eq_some_iff.mp hs).1
    rw [ax_len] at this
    omega
  rcases ho with ho | ho
  · have hs' : (gS G)[o]? = some (ci, n) := by
      have h9 : (gS (ax G x q))[o]? = (gS G)[o]? := by show (gS G ++ [x])[o]? = _; rw [List.getElem?_append_left ho]
      rw [← h9]; exact hs
    obtain ⟨h1, h2⟩ := hw o ci n hs' hci k hk
    refine ⟨fun h => ?_, fun h => ?_⟩
    · have := h1 h; show gR G o k < _; omega
    · rw [hm o (by omega)]; have := h2 h; omega
  · subst ho
    rw [ax_sh] at hs
    cases hs
    omega
theorem wfm_up {o : Nat} {f v : Int} (hw : wfm G μ) (hv : v < ((gS G).length : Int)) : wfm G (am_up μ o f v) := by
  intro o2 ci n hs hci k hk
  obtain ⟨h1, h2⟩ := hw o2 ci n hs hci k hk
  refine ⟨h1, fun h => ?_⟩
  by_cases ho : (o2 : Int) = (o : Int)
  · by_cases hf : (k : Int) = f
    · rw [ho, hf, am_up_at]; exact hv
    · rw [ho, am_up_nk hf, ← ho]; exact h2 h
  · rw [am_up_o ho]; exact h2 h
/-- a builder's superclass's constructor: the row of bytes -/
def inP (G : AG) (μ : Mu) (b N : Nat) : AG → Option AV → Mu → Prop := fun G' r μ' => ∃ q, G' = ax G (22, N) q ∧ r = none ∧ μ' = am_up (am_up (am_nw μ (gS G).length) b 0 ((gS G).length : Int)) b 1 0
theorem s_J5_init {b N : Nat} (h : (gS G)[b]? = some (9, 4)) (hN : N ≤ 1000) (hw : wfm G μ) : Gx (xK G M_J5_init_d00df 1 N (inP G μ b N)) G M_J5_init_d00df 0 0 0 [(2, (b : Int)), (0, (N : Int))] [] μ := by
  have hb := (List.getElem?_eq_some_iff.mp h).1
  refine x_aload_n dJ5_init_d00df_0 rfl rfl (by omega) ?_
  refine x_obj dJ5_init_d00df_1 (by omega) kw_ob5 kw_obi kw_obc ⟨Nat.le_of_ble_eq_true rfl, Nat.le_of_ble_eq_true rfl⟩ (Nat.le_of_ble_eq_true rfl) ?_
  refine x_getsW dJ5_init_d00df_4 kw_cs ?_
  refine x_if_eq (tgt := 25) dJ5_init_d00df_7 rfl (R32.in (by decide)) (fun h => absurd h (by decide)) (fun _ => ?_)
  refine x_aload_n dJ5_init_d00df_10 rfl rfl (by omega) ?_
  refine x_iload_n dJ5_init_d00df_11 rfl rfl ?_
  refine x_newaB (N := N) xK_A ⟨show 0 + 1 ≤ 1 by omega, show 0 + N ≤ N by omega⟩ dJ5_init_d00df_12 kw_ab rfl (by omega) hw ⟨fun _ => (by omega), nt_no (by decide), trivial⟩ ⟨fun _ => (by omega), trivial⟩ (fun q => ?_)
  have h' : (gS (ax G (22, N) q))[b]? = some (9, 4) := Xt.sh (Xt.ax G (22, N) q) h
  refine x_putA (f := 0) (ty := .byte) fJ5_init_d00df_14 rfl h' rfl rfl rfl (by omega) ?_
  refine x_aload_n dJ5_init_d00df_17 rfl rfl (by omega) ?_
  refine x_iconst dJ5_init_d00df_18 ?_
  refine x_putB (f := 1) fJ5_init_d00df_19 rfl h' rfl rfl rfl (Or.inl rfl) ?_
  refine x_goto (tgt := 38) dJ5_init_d00df_22 rfl ?_
  exact x_vretX dJ5_init_d00df_38 rfl ⟨by omega, by omega⟩ (Xt.ax G (22, N) q) ⟨q, rfl, rfl, rfl⟩
theorem s_J4_init {b : Nat} (h : (gS G)[b]? = some (9, 4)) (hw : wfm G μ) : Gx (xK G M_J4_init_da8c8 1 16 (inP G μ b 16)) G M_J4_init_da8c8 0 0 0 [(2, (b : Int))] [] μ := by
  have hb := (List.getElem?_eq_some_iff.mp h).1
  refine x_aload_n dJ4_init_da8c8_0 rfl rfl (by omega) ?_
  refine x_bipush dJ4_init_da8c8_1 (by decide) ?_
  refine x_callIX (as := [(0, 16)]) (rest := []) (k := 0) (mc := 1) (ms := 16) fJ4_init_da8c8_3 ⟨Nat.le_of_ble_eq_true rfl, Nat.le_of_ble_eq_true rfl⟩ ⟨show 0 + 1 ≤ 1 by omega, show 0 + 16 ≤ 16 by omega⟩ xK_A hw rfl rfl h rfl rfl rfl rfl (Nat.le_of_ble_eq_true rfl) ⟨fun _ => (by omega), trivial⟩ trivial (s_J5_init (N := 16) h (by decide) hw) (fun G' μ' r hp hx => ?_)
  obtain ⟨q, rfl, rfl, rfl⟩ := hp
  exact x_vretX dJ4_init_da8c8_6 rfl ⟨by omega, by omega⟩ (Xt.ax G (22, 16) q) ⟨q, rfl, rfl, rfl⟩
/-- a copy of a row, made larger -/
def cyP (G : AG) (μ : Mu) (o n N : Nat) : AG → Option AV → Mu → Prop := fun G' r μ' => ∃ q, G' = ax G (22, N) q ∧ r = some (2, ((gS G).length : Int)) ∧ μ' = am_cq (am_nw μ (gS G).length) o (gS G).length 0 0 n
theorem s_J7_copyOf {o n N : Nat} (h : (gS G)[o]? = some (22, n)) (hn : n < N) (hN : N ≤ 100000) (hb : ∀ i : Int, 0 ≤ i → i < n → -128 ≤ μ o i ∧ μ o i ≤ 127) (hw : wfm G μ) : Gx (xK G M_J7_copyOf_9075b 1 N (cyP G μ o n N)) G M_J7_copyOf_9075b 0 0 0 [(2, (o : Int)), (0, (N : Int)), (9, 0)] [] μ := by
  have ho := (List.getElem?_eq_some_iff.mp h).1
  refine x_iload_n dJ7_copyOf_9075b_0 rfl rfl ?_
  refine x_aload_n dJ7_copyOf_9075b_1 rfl rfl (by omega) ?_
  refine x_alen (t := 2) (f := (n : Int)) dJ7_copyOf_9075b_2 rfl h (by decide) rfl ?_
  refine x_icmp_ne (tgt := 14) dJ7_copyOf_9075b_3 rfl (R32.in (by omega)) (R32.in (by omega)) (fun _ => ?_) (fun h => absurd h (by omega))
  refine x_iload_n dJ7_copyOf_9075b_14 rfl rfl ?_
  refine x_newaB (N := N) xK_A ⟨show 0 + 1 ≤ 1 by omega, show 0 + N ≤ N by omega⟩ dJ7_copyOf_9075b_15 kw_ab rfl (by omega) hw ⟨fun _ => (by omega), nt_no (by decide), nt_no (by decide), trivial⟩ trivial (fun q => ?_)
  have h' : (gS (ax G (22, N) q))[o]? = some (22, n) := Xt.sh (Xt.ax G (22, N) q) h
  refine x_astore_n (ls' := [(2, (o : Int)), (0, (N : Int)), (2, ((gS G).length : Int))]) dJ7_copyOf_9075b_17 rfl (Nat.le_of_ble_eq_true rfl) rfl (by omega) rfl ?_
  refine x_aload_n dJ7_copyOf_9075b_18 rfl rfl (by omega) ?_
  refine x_iconst dJ7_copyOf_9075b_19 ?_
  refine x_aload_n dJ7_copyOf_9075b_20 rfl rfl (by omega) ?_
  refine x_iconst dJ7_copyOf_9075b_21 ?_
  refine x_aload_n dJ7_copyOf_9075b_22 rfl rfl (by omega) ?_
  refine x_alen (t := 2) (f := (n : Int)) dJ7_copyOf_9075b_23 rfl h' (by decide) rfl ?_
  refine x_iload_n dJ7_copyOf_9075b_24 rfl rfl ?_
  refine x_min fJ7_copyOf_9075b_25 (R32.in (by omega)) (R32.in (by omega)) (Nat.le_of_ble_eq_true rfl) ⟨Nat.le_of_ble_eq_true rfl, Nat.le_of_ble_eq_true rfl, show 0 + 1 ≤ 1 by omega, show 0 + N ≤ N by omega⟩ ?_
  refine Gx.topE (b := (n : Int)) (by omega) ?_
  refine x_copyB (o1 := o) (o2 := (gS G).length) (n1 := n) (n2 := N) fJ7_copyOf_9075b_28 ⟨Nat.le_of_ble_eq_true rfl, Nat.le_of_ble_eq_true rfl⟩ rfl rfl h' ax_sh (by omega) (by omega) (by omega) (fun i h1 h2 => by rw [am_nw_o (by omega)]; exact hb i h1 (by omega)) (Nat.le_of_ble_eq_true rfl) ?_
  refine x_aload_n dJ7_copyOf_9075b_31 rfl rfl (by omega) ?_
  exact x_aret dJ7_copyOf_9075b_32 rfl (Or.inr ⟨_, rfl⟩) ⟨by omega, by omega⟩ (Xt.ax G (22, N) q) ⟨q, rfl, rfl, rfl⟩
end gxs8
section gxs9
variable {K : XKt} {G G2 : AG} {M M2 : AMeth} {cs ss pc mc ms : Nat} {ls ls2 st rest as : List AV} {μ : Mu} {k n : Nat} {P : AG → Option AV → Mu → Prop} {C : String}
/-- a builder (b), her row (its place, how long): what she holds -/
def BDs (G : AG) (μ : Mu) (b ρ N : Nat) : Prop := ((gS G)[b]? = some (9, 4) ∧ (gS G)[ρ]? = some (22, N)) ∧ (μ b 0 = (ρ : Int) ∧ μ b 1 = 0) ∧ N ≤ 40000 ∧ ∀ i : Int, 0 ≤ i → i < N → -128 ≤ μ ρ i ∧ μ ρ i ≤ 127
theorem s_J5_newCapacity {b ρ N : Nat} {m : Int} (h : BDs G μ b ρ N) (hm : (N : Int) < m ∧ m ≤ 90000) (hw : wfm G μ) : Gx (xK G M_J5_newCapacity_0f7a4 0 0 (puP G μ (some (0, (N : Int) + max (m - N) (N + 2))))) G M_J5_newCapacity_0f7a4 0 0 0 [(2, (b : Int)), (0, m), (9, 0), (9, 0), (9, 0), (9, 0)] [] μ := by
  obtain ⟨⟨h1, h2⟩, ⟨h3, h4⟩, h5, -⟩ := h
  have hb := (List.getElem?_eq_some_iff.mp h1).1
  refine x_aload_n dJ5_newCapacity_0f7a4_0 rfl rfl (by omega) ?_
  refine x_getD (f := 0) fJ5_newCapacity_0f7a4_1 rfl h1 rfl rfl ?_
  refine Gx.topE h3 ?_
  refine x_alen (t := 2) (f := (N : Int)) dJ5_newCapacity_0f7a4_4 rfl h2 (by decide) rfl ?_
  refine x_istore_n (ls' := [(2, (b : Int)), (0, m), (0, (N : Int)), (9, 0), (9, 0), (9, 0)]) dJ5_newCapacity_0f7a4_5 rfl (Nat.le_of_ble_eq_true rfl) rfl rfl ?_
  refine x_iload_n dJ5_newCapacity_0f7a4_6 rfl rfl ?_
  refine x_aload_n dJ5_newCapacity_0f7a4_7 rfl rfl (by omega) ?_
  refine x_getI (f := 1) fJ5_newCapacity_0f7a4_8 rfl h1 (by decide) rfl ?_
  refine x_shl0 dJ5_newCapacity_0f7a4_11 (R32.in (by omega)) h4 ?_
  refine x_istore_n (ls' := [(2, (b : Int)), (0, m), (0, (N : Int)), (0, m), (9, 0), (9, 0)]) dJ5_newCapacity_0f7a4_12 rfl (Nat.le_of_ble_eq_true rfl) rfl rfl ?_
  refine x_iload_n dJ5_newCapacity_0f7a4_13 rfl rfl ?_
  refine x_iload_n dJ5_newCapacity_0f7a4_14 rfl rfl ?_
  refine x_isub dJ5_newCapacity_0f7a4_15 ?_
  refine x_istore (ls' := [(2, (b : Int)), (0, m), (0, (N : Int)), (0, m), (0, m - N), (9, 0)]) dJ5_newCapacity_0f7a4_16 (Nat.le_of_ble_eq_true rfl) rfl rfl ?_
  refine x_iload_n dJ5_newCapacity_0f7a4_18 rfl rfl ?_
  refine x_iload dJ5_newCapacity_0f7a4_19 rfl ?_
  refine x_iload_n dJ5_newCapacity_0f7a4_21 rfl rfl ?_
  refine x_iconst dJ5_newCapacity_0f7a4_22 ?_
  refine x_aload_n dJ5_newCapacity_0f7a4_23 rfl rfl (by omega) ?_
  refine x_getI (f := 1) fJ5_newCapacity_0f7a4_24 rfl h1 (by decide) rfl ?_
  refine x_shl0 dJ5_newCapacity_0f7a4_27 (R32.in (by decide)) h4 ?_
  refine x_iadd dJ5_newCapacity_0f7a4_28 ?_
  refine x_callSX (as := [(0, (N : Int)), (0, m - N), (0, (N : Int) + 2)]) (rest := []) (k := 1) (mc := 0) (ms := 0) (P := puP G μ (some (0, (N : Int) + max (m - N) (N + 2)))) fJ5_newCapacity_0f7a4_29 ⟨Nat.le_of_ble_eq_true rfl, Nat.le_of_ble_eq_true rfl⟩ ⟨Nat.le_refl _, Nat.le_refl _⟩ xK_A hw rfl rfl rfl rfl rfl (Nat.le_of_ble_eq_true rfl) ⟨fun _ => (by omega), nt_no (by decide), nt_no (by decide), nt_no (by decide), nt_no (by decide), nt_no (by decide), trivial⟩ trivial (s_J8_newLength (by omega) (by omega) (by omega)) (fun G' r μ' hp hx => ?_)
  obtain ⟨rfl, rfl, rfl⟩ := hp
  refine x_istore (ls' := [(2, (b : Int)), (0, m), (0, (N : Int)), (0, m), (0, m - N), (0, (N : Int) + max (m - N) (N + 2))]) dJ5_newCapacity_0f7a4_32 (Nat.le_of_ble_eq_true rfl) rfl rfl ?_
  refine x_iload dJ5_newCapacity_0f7a4_34 rfl ?_
  refine x_ldc (n := 2147483647) dJ5_newCapacity_0f7a4_36 kw_max rfl ?_
  refine x_icmp_ne (tgt := 51) dJ5_newCapacity_0f7a4_38 rfl (R32.in (by omega)) (R32.in (by decide)) (fun _ => ?_) (fun h => absurd h (by omega))
  refine x_iload dJ5_newCapacity_0f7a4_51 rfl ?_
  refine x_aload_n dJ5_newCapacity_0f7a4_53 rfl rfl (by omega) ?_
  refine x_getI (f := 1) fJ5_newCapacity_0f7a4_54 rfl h1 (by decide) rfl ?_
  refine x_shr0 dJ5_newCapacity_0f7a4_57 (R32.in (by omega)) h4 ?_
  exact x_iretX dJ5_newCapacity_0f7a4_58 rfl ⟨Nat.le_refl _, Nat.le_refl _⟩ Xt.rf ⟨rfl, rfl, rfl⟩
/-- how long the row is then -/
def enN (N : Nat) (m : Int) : Nat := ((N : Int) + max (m - N) (N + 2)).toNat
def enP (G : AG) (μ : Mu) (b ρ N : Nat) (m : Int) : AG → Option AV → Mu → Prop := fun G' r μ' => (m ≤ N ∧ G' = G ∧ r = none ∧ μ' = μ) ∨ ((N : Int) < m ∧ ∃ q, G' = ax G (22, enN N m) q ∧ r = none ∧ μ' = am_up (am_cq (am_nw μ (gS G).length) ρ (gS G).length 0 0 N) b 0 ((gS G).length : Int))
theorem s_J5_ensure {b ρ N : Nat} {m : Int} (h : BDs G μ b ρ N) (hm : 0 ≤ m ∧ m ≤ 45000) (hw : wfm G μ) : Gx (xK G M_J5_ensureCapacityInternal_d00df 1 (enN N m) (enP G μ b ρ N m)) G M_J5_ensureCapacityInternal_d00df 0 0 0 [(2, (b : Int)), (0, m), (9, 0)] [] μ := by
  obtain ⟨⟨h1, h2⟩, ⟨h3, h4⟩, h5, h6⟩ := id h
  have hb := (List.getElem?_eq_some_iff.mp h1).1
  have hr := (List.getElem?_eq_some_iff.mp h2).1
  refine x_aload_n dJ5_ensureCapacityInternal_d00df_0 rfl rfl (by omega) ?_
  refine x_getD (f := 0) fJ5_ensureCapacityInternal_d00df_1 rfl h1 rfl rfl ?_
  refine Gx.topE h3 ?_
  refine x_alen (t := 2) (f := (N : Int)) dJ5_ensureCapacityInternal_d00df_4 rfl h2 (by decide) rfl ?_
  refine x_aload_n dJ5_ensureCapacityInternal_d00df_5 rfl rfl (by omega) ?_
  refine x_getI (f := 1) fJ5_ensureCapacityInternal_d00df_6 rfl h1 (by decide) rfl ?_
  refine x_shr0 dJ5_ensureCapacityInternal_d00df_9 (R32.in (by omega)) h4 ?_
  refine x_istore_n (ls' := [(2, (b : Int)), (0, m), (0, (N : Int))]) dJ5_ensureCapacityInternal_d00df_10 rfl (Nat.le_of_ble_eq_true rfl) rfl rfl ?_
  refine x_iload_n dJ5_ensureCapacityInternal_d00df_11 rfl rfl ?_
  refine x_iload_n dJ5_ensureCapacityInternal_d00df_12 rfl rfl ?_
  refine x_isub dJ5_ensureCapacityInternal_d00df_13 ?_
  refine x_if_le (tgt := 38) dJ5_ensureCapacityInternal_d00df_14 rfl (R32.in (by omega)) (fun c => ?_) (fun c => ?_)
  · exact x_vretX dJ5_ensureCapacityInternal_d00df_38 rfl ⟨by omega, by omega⟩ Xt.rf (Or.inl ⟨by omega, rfl, rfl, rfl⟩)
  · have hN2 : ((enN N m : Nat) : Int) = (N : Int) + max (m - N) (N + 2) := by unfold enN; omega
    refine x_aload_n dJ5_ensureCapacityInternal_d00df_17 rfl rfl (by omega) ?_
    refine x_aload_n dJ5_ensureCapacityInternal_d00df_18 rfl rfl (by omega) ?_
    refine x_getD (f := 0) fJ5_ensureCapacityInternal_d00df_19 rfl h1 rfl rfl ?_
    refine Gx.topE h3 ?_
    refine x_aload_n dJ5_ensureCapacityInternal_d00df_22 rfl rfl (by omega) ?_
    refine x_iload_n dJ5_ensureCapacityInternal_d00df_23 rfl rfl ?_
    refine x_callWX (as := [(0, m)]) (rest := [(2, (ρ : Int)), (2, (b : Int))]) (k := 4) (mc := 0) (ms := 0) fJ5_ensureCapacityInternal_d00df_24 ⟨Nat.le_of_ble_eq_true rfl, Nat.le_of_ble_eq_true rfl⟩ ⟨show 0 + 0 ≤ 1 by omega, show 0 + 0 ≤ enN N m by omega⟩ xK_A hw rfl rfl h1 rfl rfl rfl rfl rfl (Nat.le_of_ble_eq_true rfl) ⟨fun _ => (by omega), nt_no (by decide), nt_no (by decide), trivial⟩ ⟨fun _ => (by omega), fun _ => (by omega), trivial⟩ (s_J5_newCapacity h ⟨by omega, by omega⟩ hw) (fun G' μ' r hp hx => ?_)
    obtain ⟨rfl, rfl, rfl⟩ := hp
    refine x_aload_n dJ5_ensureCapacityInternal_d00df_27 rfl rfl (by omega) ?_
    refine x_getI (f := 1) fJ5_ensureCapacityInternal_d00df_28 rfl h1 (by decide) rfl ?_
    refine x_shl0 dJ5_ensureCapacityInternal_d00df_31 (R32.in (by omega)) h4 ?_
    refine Gx.topE hN2.symm ?_
    refine x_callSX (as := [(2, (ρ : Int)), (0, ((enN N m : Nat) : Int))]) (rest := [(2, (b : Int))]) (k := 1) (mc := 1) (ms := enN N m) fJ5_ensureCapacityInternal_d00df_32 ⟨Nat.le_of_ble_eq_true rfl, Nat.le_of_ble_eq_true rfl⟩ ⟨show 0 + 0 + 1 ≤ 1 by omega, show 0 + 0 + enN N m ≤ enN N m by omega⟩ xK_A hw rfl rfl rfl rfl rfl (Nat.le_of_ble_eq_true rfl) ⟨fun _ => (by omega), nt_no (by decide), nt_no (by decide), trivial⟩ ⟨fun _ => (by omega), trivial⟩ (s_J7_copyOf h2 (by omega) (by omega) h6 hw) (fun G' r μ' hp hx => ?_)
    obtain ⟨q, rfl, rfl, rfl⟩ := hp
    have h' := Xt.sh (Xt.ax G' (22, enN N m) q) h1
    refine x_putA (f := 0) (ty := .byte) fJ5_ensureCapacityInternal_d00df_35 rfl h' rfl rfl rfl (by omega) ?_
    exact x_vretX dJ5_ensureCapacityInternal_d00df_38 rfl ⟨by omega, by omega⟩ (Xt.ax G' (22, enN N m) q) (Or.inr ⟨by omega, q, rfl, rfl, rfl⟩)
end gxs9
section gxs10
variable {K : XKt} {G G2 : AG} {M M2 : AMeth} {cs ss pc mc ms : Nat} {ls ls2 st rest as : List AV} {μ : Mu} {k n : Nat} {P : AG → Option AV → Mu → Prop} {C : String}
theorem fJ_coder_7g : am_Fg M_J_coder 7 8 1 := ⟨15, (RJ0, TJ0, 4), dJ_coder_7, rfl, Nat.le_of_ble_eq_true rfl, kj_1972⟩
theorem fJ_len_1g : am_Fg M_J_len 1 8 0 := ⟨9, (RJ0, TJ0, 4), dJ_len_1, rfl, Nat.le_of_ble_eq_true rfl, kj_1971⟩
theorem fJ_len_6g : g_Cw M_J_len 6 "java/lang/String" M_J_coder 0 := ⟨335, dJ_len_6, kj_519, kj_520, kj_521, ok_J_coder⟩
/-- a string (o), her row (its place, how long) -/
def STs (G : AG) (μ : Mu) (o ρ n : Nat) : Prop := ((gS G)[o]? = some (8, 4) ∧ (gS G)[ρ]? = some (22, n)) ∧ (μ o 0 = (ρ : Int) ∧ μ o 1 = 0) ∧ n ≤ 40000 ∧ ∀ i : Int, 0 ≤ i → i < n → 0 ≤ μ ρ i ∧ μ ρ i ≤ 127
theorem nar_b0 : narrow .byte (.int (Int32.ofInt 0)) = .int (Int32.ofInt 0) := by decide
theorem s_coder {o ρ n : Nat} (h : STs G μ o ρ n) : Gx (xK G M_J_coder 0 0 (puP G μ (some (0, 0)))) G M_J_coder 0 0 0 [(2, (o : Int))] [] μ := by
  obtain ⟨⟨h1, h2⟩, ⟨h3, h4⟩, h5, h6⟩ := id h
  refine x_getsC dJ_coder_0 rfl ?_
  refine x_if_eq (tgt := 13) dJ_coder_3 rfl (R32.in (by decide)) (fun h => absurd h (by decide)) (fun _ => ?_)
  refine x_aload_n dJ_coder_6 rfl rfl (by omega) ?_
  refine x_getI (f := 1) fJ_coder_7g rfl h1 (by decide) rfl ?_
  refine x_goto (tgt := 14) dJ_coder_10 rfl ?_
  refine Gx.topE h4 ?_
  exact x_nretX dJ_coder_14 rfl nar_b0 ⟨Nat.le_refl _, Nat.le_refl _⟩ Xt.rf ⟨rfl, rfl, rfl⟩
theorem s_len {o ρ n : Nat} (h : STs G μ o ρ n) (hw : wfm G μ) : Gx (xK G M_J_len 0 0 (puP G μ (some (0, (n : Int))))) G M_J_len 0 0 0 [(2, (o : Int))] [] μ := by
  obtain ⟨⟨h1, h2⟩, ⟨h3, h4⟩, h5, h6⟩ := id h
  have ho := (List.getElem?_eq_some_iff.mp h1).1
  refine x_aload_n dJ_len_0 rfl rfl (by omega) ?_
  refine x_getD (f := 0) fJ_len_1g rfl h1 rfl rfl ?_
  refine Gx.topE h3 ?_
  refine x_alen (t := 2) (f := (n : Int)) dJ_len_4 rfl h2 (by decide) rfl ?_
  refine x_aload_n dJ_len_5 rfl rfl (by omega) ?_
  refine x_callWX (as := []) (rest := [(0, (n : Int))]) (k := 0) (mc := 0) (ms := 0) fJ_len_6g ⟨Nat.le_of_ble_eq_true rfl, Nat.le_of_ble_eq_true rfl⟩ ⟨Nat.le_refl _, Nat.le_refl _⟩ xK_A hw rfl rfl h1 rfl rfl rfl rfl rfl (Nat.le_of_ble_eq_true rfl) ⟨fun _ => (by omega), trivial⟩ ⟨nt_no (by decide), trivial⟩ (s_coder h) (fun G' μ' r hp hx => ?_)
  obtain ⟨rfl, rfl, rfl⟩ := hp
  refine x_shr0 dJ_len_9 (R32.in (by omega)) rfl ?_
  exact x_iretX dJ_len_10 rfl ⟨Nat.le_refl _, Nat.le_refl _⟩ Xt.rf ⟨rfl, rfl, rfl⟩
/-- a row written -/
def roP (G : AG) (μ1 : Mu) : AG → Option AV → Mu → Prop := fun G' r μ' => G' = G ∧ r = none ∧ μ' = μ1
theorem s_J0_getBytes {o ρ n d D : Nat} {c : Int} (h : STs G μ o ρ n) (hd : (gS G)[d]? = some (22, D)) (hD : D ≤ 100000) (hc : 0 ≤ c ∧ c + n ≤ D) (hw : wfm G μ) : Gx (xK G M_J0_getBytes_840e7 0 0 (roP G (am_cq μ ρ d 0 c n))) G M_J0_getBytes_840e7 0 0 0 [(2, (o : Int)), (2, (d : Int)), (0, c), (0, 0)] [] μ := by
  obtain ⟨⟨h1, h2⟩, ⟨h3, h4⟩, h5, h6⟩ := id h
  have ho := (List.getElem?_eq_some_iff.mp h1).1
  have hd' := (List.getElem?_eq_some_iff.mp hd).1
  refine x_aload_n dJ0_getBytes_840e7_0 rfl rfl (by omega) ?_
  refine x_callWX (as := []) (rest := []) (k := 0) (mc := 0) (ms := 0) fJ0_getBytes_840e7_1 ⟨Nat.le_of_ble_eq_true rfl, Nat.le_of_ble_eq_true rfl⟩ ⟨Nat.le_refl _, Nat.le_refl _⟩ xK_A hw rfl rfl h1 rfl rfl rfl rfl rfl (Nat.le_of_ble_eq_true rfl) ⟨fun _ => (by omega), fun _ => (by omega), nt_no (by decide), nt_no (by decide), trivial⟩ trivial (s_coder h) (fun G' μ' r hp hx => ?_)
  obtain ⟨rfl, rfl, rfl⟩ := hp
  refine x_iload_n dJ0_getBytes_840e7_4 rfl rfl ?_
  refine x_icmp_ne (tgt := 28) dJ0_getBytes_840e7_5 rfl (R32.in (by decide)) (R32.in (by decide)) (fun h => absurd rfl h) (fun _ => ?_)
  refine x_aload_n dJ0_getBytes_840e7_8 rfl rfl (by omega) ?_
  refine x_getD (f := 0) fJ0_getBytes_840e7_9 rfl h1 rfl rfl ?_
  refine Gx.topE h3 ?_
  refine x_iconst dJ0_getBytes_840e7_12 ?_
  refine x_aload_n dJ0_getBytes_840e7_13 rfl rfl (by omega) ?_
  refine x_iload_n dJ0_getBytes_840e7_14 rfl rfl ?_
  refine x_iload_n dJ0_getBytes_840e7_15 rfl rfl ?_
  refine x_shl0 dJ0_getBytes_840e7_16 (R32.in (by omega)) rfl ?_
  refine x_aload_n dJ0_getBytes_840e7_17 rfl rfl (by omega) ?_
  refine x_getD (f := 0) fJ0_getBytes_840e7_18 rfl h1 rfl rfl ?_
  refine Gx.topE h3 ?_
  refine x_alen (t := 2) (f := (n : Int)) dJ0_getBytes_840e7_21 rfl h2 (by decide) rfl ?_
  refine x_copyB (o1 := ρ) (o2 := d) (n1 := n) (n2 := D) fJ0_getBytes_840e7_22 ⟨Nat.le_of_ble_eq_true rfl, Nat.le_of_ble_eq_true rfl⟩ rfl rfl h2 hd (by omega) (by omega) (by omega) (fun i a1 a2 => by have := h6 i a1 (by omega); omega) (Nat.le_of_ble_eq_true rfl) ?_
  refine x_goto (tgt := 43) dJ0_getBytes_840e7_25 rfl ?_
  exact x_vretX dJ0_getBytes_840e7_43 rfl ⟨Nat.le_refl _, Nat.le_refl _⟩ Xt.rf ⟨rfl, rfl, rfl⟩
theorem s_J5_inflate {b ρ N o ρ' n : Nat} (hb : BDs G μ b ρ N) (h : STs G μ o ρ' n) (hw : wfm G μ) : Gx (xK G M_J5_inflateIfNeededFor_a7421 0 0 (roP G μ)) G M_J5_inflateIfNeededFor_a7421 0 0 0 [(2, (b : Int)), (2, (o : Int))] [] μ := by
  obtain ⟨⟨h1, h2⟩, ⟨h3, h4⟩, h5, h6⟩ := id hb
  have hbl := (List.getElem?_eq_some_iff.mp h1).1
  have ho := (List.getElem?_eq_some_iff.mp h.1.1).1
  refine x_getsW dJ5_inflateIfNeededFor_a7421_0 kw_cs ?_
  refine x_if_eq (tgt := 21) dJ5_inflateIfNeededFor_a7421_3 rfl (R32.in (by decide)) (fun h => absurd h (by decide)) (fun _ => ?_)
  refine x_aload_n dJ5_inflateIfNeededFor_a7421_6 rfl rfl (by omega) ?_
  refine x_getI (f := 1) fJ5_inflateIfNeededFor_a7421_7 rfl h1 (by decide) rfl ?_
  refine x_aload_n dJ5_inflateIfNeededFor_a7421_10 rfl rfl (by omega) ?_
  refine x_callWX (as := []) (rest := [(0, μ b 1)]) (k := 0) (mc := 0) (ms := 0) fJ5_inflateIfNeededFor_a7421_11 ⟨Nat.le_of_ble_eq_true rfl, Nat.le_of_ble_eq_true rfl⟩ ⟨Nat.le_refl _, Nat.le_refl _⟩ xK_A hw rfl rfl h.1.1 rfl rfl rfl rfl rfl (Nat.le_of_ble_eq_true rfl) ⟨fun _ => (by omega), fun _ => (by omega), trivial⟩ ⟨nt_no (by decide), trivial⟩ (s_coder h) (fun G' μ' r hp hx => ?_)
  obtain ⟨rfl, rfl, rfl⟩ := hp
  refine x_icmp_eq (tgt := 21) dJ5_inflateIfNeededFor_a7421_14 rfl (by rw [h4]; exact R32.in (by decide)) (R32.in (by decide)) (fun _ => ?_) (fun q => absurd h4 q)
  exact x_vretX dJ5_inflateIfNeededFor_a7421_21 rfl ⟨Nat.le_refl _, Nat.le_refl _⟩ Xt.rf ⟨rfl, rfl, rfl⟩
theorem s_J5_putStringAt {b ρ N o ρ' n : Nat} {c : Int} (hb : BDs G μ b ρ N) (h : STs G μ o ρ' n) (hc : 0 ≤ c ∧ c + n ≤ N) (hw : wfm G μ) : Gx (xK G M_J5_putStringAt_47b60 0 0 (roP G (am_cq μ ρ' ρ 0 c n))) G M_J5_putStringAt_47b60 0 0 0 [(2, (b : Int)), (0, c), (2, (o : Int))] [] μ := by
  obtain ⟨⟨h1, h2⟩, ⟨h3, h4⟩, h5, h6⟩ := id hb
  have hbl := (List.getElem?_eq_some_iff.mp h1).1
  have hrl := (List.getElem?_eq_some_iff.mp h2).1
  have ho := (List.getElem?_eq_some_iff.mp h.1.1).1
  refine x_aload_n dJ5_putStringAt_47b60_0 rfl rfl (by omega) ?_
  refine x_aload_n dJ5_putStringAt_47b60_1 rfl rfl (by omega) ?_
  refine x_callWX (as := [(2, (o : Int))]) (rest := []) (k := 0) (mc := 0) (ms := 0) fJ5_putStringAt_47b60_2 ⟨Nat.le_of_ble_eq_true rfl, Nat.le_of_ble_eq_true rfl⟩ ⟨Nat.le_refl _, Nat.le_refl _⟩ xK_A hw rfl rfl h1 rfl rfl rfl rfl rfl (Nat.le_of_ble_eq_true rfl) ⟨fun _ => (by omega), nt_no (by decide), fun _ => (by omega), trivial⟩ trivial (s_J5_inflate hb h hw) (fun G' μ' r hp hx => ?_)
  obtain ⟨rfl, rfl, rfl⟩ := hp
  refine x_aload_n dJ5_putStringAt_47b60_5 rfl rfl (by omega) ?_
  refine x_aload_n dJ5_putStringAt_47b60_6 rfl rfl (by omega) ?_
  refine x_getD (f := 0) fJ5_putStringAt_47b60_7 rfl h1 rfl rfl ?_
  refine Gx.topE h3 ?_
  refine x_iload_n dJ5_putStringAt_47b60_10 rfl rfl ?_
  refine x_aload_n dJ5_putStringAt_47b60_11 rfl rfl (by omega) ?_
  refine x_getI (f := 1) fJ5_putStringAt_47b60_12 rfl h1 (by decide) rfl ?_
  refine Gx.topE h4 ?_
  refine x_callWX (as := [(2, (ρ : Int)), (0, c), (0, 0)]) (rest := []) (k := 0) (mc := 0) (ms := 0) fJ5_putStringAt_47b60_15 ⟨Nat.le_of_ble_eq_true rfl, Nat.le_of_ble_eq_true rfl⟩ ⟨Nat.le_refl _, Nat.le_refl _⟩ xK_A hw rfl rfl h.1.1 rfl rfl rfl rfl rfl (Nat.le_of_ble_eq_true rfl) ⟨fun _ => (by omega), nt_no (by decide), fun _ => (by omega), trivial⟩ trivial (s_J0_getBytes h h2 (by omega) hc hw) (fun G' μ' r hp hx => ?_)
  obtain ⟨rfl, rfl, rfl⟩ := hp
  exact x_vretX dJ5_putStringAt_47b60_18 rfl ⟨Nat.le_refl _, Nat.le_refl _⟩ Xt.rf ⟨rfl, rfl, rfl⟩
end gxs10
