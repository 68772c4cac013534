section gxs7
variable {K : XKt} {G G2 : AG} {M M2 : AMeth} {cs ss pc mc ms : Nat} {ls ls2 st rest as : List AV} {μ : Mu} {k n : Nat} {P : AG → Option AV → Mu → Prop} {C : String}
theorem shr_0 {a : Int} (h : R32 a) : am_ishr a 0 = a := by
  unfold am_ishr
  have e : (Int32.ofInt 0 &&& 31) = 0 := by decide
  rw [e]
  simp [h.eq]
theorem shl_0 {a : Int} (h : R32 a) : am_ishl a 0 = a := by
  unfold am_ishl
  have e : (Int32.ofInt 0 &&& 31) = 0 := by decide
  rw [e]
  simp [h.eq]
theorem x_shr0 {a b : Int} (hd : decode M.2.1 pc = .ok (.ishr, 1)) (ha : R32 a) (hb : b = 0) (kk : Gx K G M cs ss (pc + 1) ls ((0, a) :: st) μ) : Gx K G M cs ss pc ls ((0, b) :: (0, a) :: st) μ := by
  subst hb
  refine x_ishr hd ?_
  rw [shr_0 ha]
  exact kk
theorem x_shl0 {a b : Int} (hd : decode M.2.1 pc = .ok (.ishl, 1)) (ha : R32 a) (hb : b = 0) (kk : Gx K G M cs ss (pc + 1) ls ((0, a) :: st) μ) : Gx K G M cs ss pc ls ((0, b) :: (0, a) :: st) μ := by
  subst hb
  refine x_ishl hd ?_
  rw [shl_0 ha]
  exact kk
theorem x_obj {idx : Nat} {z : Int} (hd : decode M.2.1 pc = .ok (.invokespecial idx, 3)) (h0 : 0 ≤ z) (h1 : Cond.methodLink M.1.cls idx Lib.objectInit ∈ TW) (h2 : Cond.instanceMethod Lib.objectInit ∈ TW) (h3 : Cond.code Lib.objectInit ⟨#[0xb1]⟩ 1 none ∈ TW) (hR : 1 ≤ K.1.frames ∧ 30 ≤ K.1.locals) (hcat : am_cs st ≤ 8) (kk : Gx K G M cs ss (pc + 3) ls st μ) : Gx K G M cs ss pc ls ((2, z) :: st) μ := by
  intro p e s m args below meth c H locs lsA hI
  obtain ⟨hX, hK, hP, hD, hS, hE, hl⟩ := id hI
  have hts := hX.2.2.2.2.1
  rw [List.map_cons, am_ref_pos h0]
  have h9 : (List.map (fun v => v.category) (st.map (am_c G))).sum ≤ 8 := by rw [am_cs_eq]; exact hcat
  refine W.objInit hX.1 hX.2.1 hX.2.2.2.1 (hts _ h1) (hts _ h2) (hts _ h3) rfl (by rw [hX.2.2.1]; exact hl.1) rfl hd hR.1 (by show 2 * 0 + _ + 12 ≤ _; omega) ?_
  exact kk p e s m args below meth c H locs lsA hI
/-- nothing is changed -/
def puP (G : AG) (μ : Mu) (v : Option AV) : AG → Option AV → Mu → Prop := fun G' r μ' => G' = G ∧ r = v ∧ μ' = μ
theorem s_J5_length {b : Nat} (h : (gS G)[b]? = some (9, 4)) : Gx (xK G M_J5_length_8abf5 0 0 (puP G μ (some (0, μ b 3)))) G M_J5_length_8abf5 0 0 0 [(2, (b : Int))] [] μ := by
  refine x_aload_n dJ5_length_8abf5_0 rfl rfl (by omega) ?_
  refine x_getI (f := 3) fJ5_length_8abf5_1 rfl h (by decide) rfl ?_
  exact x_iretX dJ5_length_8abf5_4 rfl ⟨Nat.le_refl _, Nat.le_refl _⟩ Xt.rf ⟨rfl, rfl, rfl⟩
theorem s_J4_length {b : Nat} (h : (gS G)[b]? = some (9, 4)) (hw : wfm G μ) : Gx (xK G M_J4_length_8abf5 0 0 (puP G μ (some (0, μ b 3)))) G M_J4_length_8abf5 0 0 0 [(2, (b : Int))] [] μ := by
  have hb := (List.getElem?_eq_some_iff.mp h).1
  refine x_aload_n dJ4_length_8abf5_0 rfl rfl (by omega) ?_
  refine x_callUX (C := "java/lang/StringBuilder") (as := []) (rest := []) (k := 0) fJ4_length_8abf5_1 ⟨Nat.le_of_ble_eq_true rfl, Nat.le_of_ble_eq_true rfl⟩ ⟨Nat.le_refl _, Nat.le_refl _⟩ xK_A hw rfl rfl h rfl rfl rfl rfl rfl (Nat.le_of_ble_eq_true rfl) ⟨fun _ => (by omega), trivial⟩ trivial (s_J5_length h) (fun G' μ' r hp hx => ?_)
  obtain ⟨rfl, rfl, rfl⟩ := hp
  exact x_iretX dJ4_length_8abf5_4 rfl ⟨Nat.le_refl _, Nat.le_refl _⟩ Xt.rf ⟨rfl, rfl, rfl⟩
theorem s_J5_getValue {b : Nat} (h : (gS G)[b]? = some (9, 4)) : Gx (xK G M_J5_getValue_6d5f1 0 0 (puP G μ (some (2, μ b 0)))) G M_J5_getValue_6d5f1 0 0 0 [(2, (b : Int))] [] μ := by
  refine x_aload_n dJ5_getValue_6d5f1_0 rfl rfl (by omega) ?_
  refine x_getD (f := 0) fJ5_getValue_6d5f1_1 rfl h rfl rfl ?_
  exact x_aret dJ5_getValue_6d5f1_4 rfl (Or.inr ⟨_, rfl⟩) ⟨Nat.le_refl _, Nat.le_refl _⟩ Xt.rf ⟨rfl, rfl, rfl⟩
theorem s_J5_isLatin1 {b : Nat} (h : (gS G)[b]? = some (9, 4)) (h1 : μ b 1 = 0) : Gx (xK G M_J5_isLatin1_aae02 0 0 (puP G μ (some (0, 1)))) G M_J5_isLatin1_aae02 0 0 0 [(2, (b : Int))] [] μ := by
  refine x_getsW dJ5_isLatin1_aae02_0 kw_cs ?_
  refine x_if_eq (tgt := 17) dJ5_isLatin1_aae02_3 rfl (R32.in (by decide)) (fun h => absurd h (by decide)) (fun _ => ?_)
  refine x_aload_n dJ5_isLatin1_aae02_6 rfl rfl (by omega) ?_
  refine x_getI (f := 1) fJ5_isLatin1_aae02_7 rfl h (by decide) rfl ?_
  refine x_if_ne (tgt := 17) dJ5_isLatin1_aae02_10 rfl (by rw [h1]; exact R32.in (by decide)) (fun h => absurd h1 h) (fun _ => ?_)
  refine x_iconst dJ5_isLatin1_aae02_13 ?_
  refine x_goto (tgt := 18) dJ5_isLatin1_aae02_14 rfl ?_
  exact x_zretX dJ5_isLatin1_aae02_18 rfl (Or.inr rfl) ⟨Nat.le_refl _, Nat.le_refl _⟩ Xt.rf ⟨rfl, rfl, rfl⟩
theorem s_J8_newLength {a b c : Int} (ha : 0 ≤ a ∧ a ≤ 100000) (hb : 0 ≤ b ∧ b ≤ 100000) (hc : 1 ≤ c ∧ c ≤ 200002) : Gx (xK G M_J8_newLength_cabcc 0 0 (puP G μ (some (0, a + max b c)))) G M_J8_newLength_cabcc 0 0 0 [(0, a), (0, b), (0, c), (9, 0)] [] μ := by
  refine x_iload_n dJ8_newLength_cabcc_0 rfl rfl ?_
  refine x_iload_n dJ8_newLength_cabcc_1 rfl rfl ?_
  refine x_iload_n dJ8_newLength_cabcc_2 rfl rfl ?_
  refine x_max fJ8_newLength_cabcc_3 (R32.in (by omega)) (R32.in (by omega)) (Nat.le_of_ble_eq_true rfl) ⟨Nat.le_of_ble_eq_true rfl, Nat.le_of_ble_eq_true rfl, Nat.le_refl _, Nat.le_refl _⟩ ?_
  refine x_iadd dJ8_newLength_cabcc_6 ?_
  refine x_istore_n (ls' := [(0, a), (0, b), (0, c), (0, a + max b c)]) dJ8_newLength_cabcc_7 rfl (Nat.le_of_ble_eq_true rfl) rfl rfl ?_
  refine x_iconst dJ8_newLength_cabcc_8 ?_
  refine x_iload_n dJ8_newLength_cabcc_9 rfl rfl ?_
  refine x_icmp_ge (tgt := 21) dJ8_newLength_cabcc_10 rfl (R32.in (by decide)) (R32.in (by omega)) (fun h => absurd h (by omega)) (fun _ => ?_)
  refine x_iload_n dJ8_newLength_cabcc_13 rfl rfl ?_
  refine x_ldc (n := 2147483639) dJ8_newLength_cabcc_14 kw_soft rfl ?_
  refine x_icmp_gt (tgt := 21) dJ8_newLength_cabcc_16 rfl (R32.in (by omega)) (R32.in (by decide)) (fun h => absurd h (by omega)) (fun _ => ?_)
  refine x_iload_n dJ8_newLength_cabcc_19 rfl rfl ?_
  exact x_iretX dJ8_newLength_cabcc_20 rfl ⟨Nat.le_refl _, Nat.le_refl _⟩ Xt.rf ⟨rfl, rfl, rfl⟩
end gxs7
section gxs8
variable {K : XKt} {G G2 : AG} {M M2 : AMeth} {cs ss pc mc ms : Nat} {ls ls2 st rest as : List AV} {μ : Mu} {k n : Nat} {P : AG → Option AV → Mu → Prop} {C : String}
theorem wfm_ax {x : Nat × Nat} {q : Nat} {μ' : Mu} (hw : wfm G μ) (hx : 20 ≤ x.1) (hm : ∀ o : Int, o ≠ ((gS G).length : Int) → μ' o = μ o) : wfm (ax G x q) μ' := by
  intro o ci n hs hci k hk
  rw [ax_len]
  have ho : o < (gS G).length ∨ o = (gS G).length := by
    have := (List.getElem?_eq_some_iff.mp hs).1
    rw [ax_len] at this
    omega
  rcases ho with ho | ho
  · have hs' : (gS G)[o]? = some (ci, n) := by
      have h9 : (gS (ax G x q))[o]? = (gS G)[o]? := by show (gS G ++ [x])[o]? = _; rw [List.getElem?_append_left ho]
      rw [← h9]; exact hs
    obtain ⟨h1, h2⟩ := hw o ci n hs' hci k hk
    refine ⟨fun h => ?_, fun h => ?_⟩
    · have := h1 h; show gR G o k < _; omega
    · rw [hm o (by omega)]; have := h2 h; omega
  · subst ho
    rw [ax_sh] at hs
    cases hs
    omega
theorem wfm_up {o : Nat} {f v : Int} (hw : wfm G μ) (hv : v < ((gS G).length : Int)) : wfm G (am_up μ o f v) := by
  intro o2 ci n hs hci k hk
  obtain ⟨h1, h2⟩ := hw o2 ci n hs hci k hk
  refine ⟨h1, fun h => ?_⟩
  by_cases ho : (o2 : Int) = (o : Int)
  · by_cases hf : (k : Int) = f
    · rw [ho, hf, am_up_at]; exact hv
    · rw [ho, am_up_nk hf, ← ho]; exact h2 h
  · rw [am_up_o ho]; exact h2 h
/-- a builder's superclass's constructor: the row of bytes -/
def inP (G : AG) (μ : Mu) (b N : Nat) : AG → Option AV → Mu → Prop := fun G' r μ' => ∃ q, G' = ax G (22, N) q ∧ r = none ∧ μ' = am_up (am_up (am_nw μ (gS G).length) b 0 ((gS G).length : Int)) b 1 0
theorem s_J5_init {b N : Nat} (h : (gS G)[b]? = some (9, 4)) (hN : N ≤ 1000) (hw : wfm G μ) : Gx (xK G M_J5_init_d00df 1 N (inP G μ b N)) G M_J5_init_d00df 0 0 0 [(2, (b : Int)), (0, (N : Int))] [] μ := by
  have hb := (List.getElem?_eq_some_iff.mp h).1
  refine x_aload_n dJ5_init_d00df_0 rfl rfl (by omega) ?_
  refine x_obj dJ5_init_d00df_1 (by omega) kw_ob5 kw_obi kw_obc ⟨Nat.le_of_ble_eq_true rfl, Nat.le_of_ble_eq_true rfl⟩ (Nat.le_of_ble_eq_true rfl) ?_
  refine x_getsW dJ5_init_d00df_4 kw_cs ?_
  refine x_if_eq (tgt := 25) dJ5_init_d00df_7 rfl (R32.in (by decide)) (fun h => absurd h (by decide)) (fun _ => ?_)
  refine x_aload_n dJ5_init_d00df_10 rfl rfl (by omega) ?_
  refine x_iload_n dJ5_init_d00df_11 rfl rfl ?_
  refine x_newaB (N := N) xK_A ⟨show 0 + 1 ≤ 1 by omega, show 0 + N ≤ N by omega⟩ dJ5_init_d00df_12 kw_ab rfl (by omega) hw ⟨fun _ => (by omega), nt_no (by decide), trivial⟩ ⟨fun _ => (by omega), trivial⟩ (fun q => ?_)
  have h' : (gS (ax G (22, N) q))[b]? = some (9, 4) := Xt.sh (Xt.ax G (22, N) q) h
  refine x_putA (f := 0) (ty := .byte) fJ5_init_d00df_14 rfl h' rfl rfl rfl (by omega) ?_
  refine x_aload_n dJ5_init_d00df_17 rfl rfl (by omega) ?_
  refine x_iconst dJ5_init_d00df_18 ?_
  refine x_putB (f := 1) fJ5_init_d00df_19 rfl h' rfl rfl rfl (Or.inl rfl) ?_
  refine x_goto (tgt := 38) dJ5_init_d00df_22 rfl ?_
  exact x_vretX dJ5_init_d00df_38 rfl ⟨by omega, by omega⟩ (Xt.ax G (22, N) q) ⟨q, rfl, rfl, rfl⟩
theorem s_J4_init {b : Nat} (h : (gS G)[b]? = some (9, 4)) (hw : wfm G μ) : Gx (xK G M_J4_init_da8c8 1 16 (inP G μ b 16)) G M_J4_init_da8c8 0 0 0 [(2, (b : Int))] [] μ := by
  have hb := (List.getElem?_eq_some_iff.mp h).1
  refine x_aload_n dJ4_init_da8c8_0 rfl rfl (by omega) ?_
  refine x_bipush dJ4_init_da8c8_1 (by decide) ?_
  refine x_callIX (as := [(0, 16)]) (rest := []) (k := 0) (mc := 1) (ms := 16) fJ4_init_da8c8_3 ⟨Nat.le_of_ble_eq_true rfl, Nat.le_of_ble_eq_true rfl⟩ ⟨show 0 + 1 ≤ 1 by omega, show 0 + 16 ≤ 16 by omega⟩ xK_A hw rfl rfl h rfl rfl rfl rfl (Nat.le_of_ble_eq_true rfl) ⟨fun _ => (by omega), trivial⟩ trivial (s_J5_init (N := 16) h (by decide) hw) (fun G' μ' r hp hx => ?_)
  obtain ⟨q, rfl, rfl, rfl⟩ := hp
  exact x_vretX dJ4_init_da8c8_6 rfl ⟨by omega, by omega⟩ (Xt.ax G (22, 16) q) ⟨q, rfl, rfl, rfl⟩
/-- a copy of a row, made larger -/
def cyP (G : AG) (μ : Mu) (o n N : Nat) : AG → Option AV → Mu → Prop := fun G' r μ' => ∃ q, G' = ax G (22, N) q ∧ r = some (2, ((gS G).length : Int)) ∧ μ' = am_cq (am_nw μ (gS G).length) o (gS G).length 0 0 n
theorem s_J7_copyOf {o n N : Nat} (h : (gS G)[o]? = some (22, n)) (hn : n < N) (hN : N ≤ 100000) (hb : ∀ i : Int, 0 ≤ i → i < n → -128 ≤ μ o i ∧ μ o i ≤ 127) (hw : wfm G μ) : Gx (xK G M_J7_copyOf_9075b 1 N (cyP G μ o n N)) G M_J7_copyOf_9075b 0 0 0 [(2, (o : Int)), (0, (N : Int)), (9, 0)] [] μ := by
  have ho := (List.getElem?_eq_some_iff.mp h).1
  refine x_iload_n dJ7_copyOf_9075b_0 rfl rfl ?_
  refine x_aload_n dJ7_copyOf_9075b_1 rfl rfl (by omega) ?_
  refine x_alen (t := 2) (f := (n : Int)) dJ7_copyOf_9075b_2 rfl h (by decide) rfl ?_
  refine x_icmp_ne (tgt := 14) dJ7_copyOf_9075b_3 rfl (R32.in (by omega)) (R32.in (by omega)) (fun _ => ?_) (fun h => absurd h (by omega))
  refine x_iload_n dJ7_copyOf_9075b_14 rfl rfl ?_
  refine x_newaB (N := N) xK_A ⟨show 0 + 1 ≤ 1 by omega, show 0 + N ≤ N by omega⟩ dJ7_copyOf_9075b_15 kw_ab rfl (by omega) hw ⟨fun _ => (by omega), nt_no (by decide), nt_no (by decide), trivial⟩ trivial (fun q => ?_)
  have h' : (gS (ax G (22, N) q))[o]? = some (22, n) := Xt.sh (Xt.ax G (22, N) q) h
  refine x_astore_n (ls' := [(2, (o : Int)), (0, (N : Int)), (2, ((gS G).length : Int))]) dJ7_copyOf_9075b_17 rfl (Nat.le_of_ble_eq_true rfl) rfl (by omega) rfl ?_
  refine x_aload_n dJ7_copyOf_9075b_18 rfl rfl (by omega) ?_
  refine x_iconst dJ7_copyOf_9075b_19 ?_
  refine x_aload_n dJ7_copyOf_9075b_20 rfl rfl (by omega) ?_
  refine x_iconst dJ7_copyOf_9075b_21 ?_
  refine x_aload_n dJ7_copyOf_9075b_22 rfl rfl (by omega) ?_
  refine x_alen (t := 2) (f := (n : Int)) dJ7_copyOf_9075b_23 rfl h' (by decide) rfl ?_
  refine x_iload_n dJ7_copyOf_9075b_24 rfl rfl ?_
  refine x_min fJ7_copyOf_9075b_25 (R32.in (by omega)) (R32.in (by omega)) (Nat.le_of_ble_eq_true rfl) ⟨Nat.le_of_ble_eq_true rfl, Nat.le_of_ble_eq_true rfl, show 0 + 1 ≤ 1 by omega, show 0 + N ≤ N by omega⟩ ?_
  refine Gx.topE (b := (n : Int)) (by omega) ?_
  refine x_copyB (o1 := o) (o2 := (gS G).length) (n1 := n) (n2 := N) fJ7_copyOf_9075b_28 ⟨Nat.le_of_ble_eq_true rfl, Nat.le_of_ble_eq_true rfl⟩ rfl rfl h' ax_sh (by omega) (by omega) (by omega) (fun i h1 h2 => by rw [am_nw_o (by omega)]; exact hb i h1 (by omega)) (Nat.le_of_ble_eq_true rfl) ?_
  refine x_aload_n dJ7_copyOf_9075b_31 rfl rfl (by omega) ?_
  exact x_aret dJ7_copyOf_9075b_32 rfl (Or.inr ⟨_, rfl⟩) ⟨by omega, by omega⟩ (Xt.ax G (22, N) q) ⟨q, rfl, rfl, rfl⟩
end gxs8
section gxs9
variable {K : XKt} {G G2 : AG} {M M2 : AMeth} {cs ss pc mc ms : Nat} {ls ls2 st rest as : List AV} {μ : Mu} {k n : Nat} {P : AG → Option AV → Mu → Prop} {C : String}
/-- a builder (b), her row (its place, how long): what she holds -/
def BDs (G : AG) (μ : Mu) (b ρ N : Nat) : Prop := ((gS G)[b]? = some (9, 4) ∧ (gS G)[ρ]? = some (22, N)) ∧ (μ b 0 = (ρ : Int) ∧ μ b 1 = 0) ∧ N ≤ 40000 ∧ ∀ i : Int, 0 ≤ i → i < N → -128 ≤ μ ρ i ∧ μ ρ i ≤ 127
theorem s_J5_newCapacity {b ρ N : Nat} {m : Int} (h : BDs G μ b ρ N) (hm : (N : Int) < m ∧ m ≤ 90000) (hw : wfm G μ) : Gx (xK G M_J5_newCapacity_0f7a4 0 0 (puP G μ (some (0, (N : Int) + max (m - N) (N + 2))))) G M_J5_newCapacity_0f7a4 0 0 0 [(2, (b : Int)), (0, m), (9, 0), (9, 0), (9, 0), (9, 0)] [] μ := by
  obtain ⟨⟨h1, h2⟩, ⟨h3, h4⟩, h5, -⟩ := h
  have hb := (List.getElem?_eq_some_iff.mp h1).1
  refine x_aload_n dJ5_newCapacity_0f7a4_0 rfl rfl (by omega) ?_
  refine x_getD (f := 0) fJ5_newCapacity_0f7a4_1 rfl h1 rfl rfl ?_
  refine Gx.topE h3 ?_
  refine x_alen (t := 2) (f := (N : Int)) dJ5_newCapacity_0f7a4_4 rfl h2 (by decide) rfl ?_
  refine x_istore_n (ls' := [(2, (b : Int)), (0, m), (0, (N : Int)), (9, 0), (9, 0), (9, 0)]) dJ5_newCapacity_0f7a4_5 rfl (Nat.le_of_ble_eq_true rfl) rfl rfl ?_
  refine x_iload_n dJ5_newCapacity_0f7a4_6 rfl rfl ?_
  refine x_aload_n dJ5_newCapacity_0f7a4_7 rfl rfl (by omega) ?_
  refine x_getI (f := 1) fJ5_newCapacity_0f7a4_8 rfl h1 (by decide) rfl ?_
  refine x_shl0 dJ5_newCapacity_0f7a4_11 (R32.in (by omega)) h4 ?_
  refine x_istore_n (ls' := [(2, (b : Int)), (0, m), (0, (N : Int)), (0, m), (9, 0), (9, 0)]) dJ5_newCapacity_0f7a4_12 rfl (Nat.le_of_ble_eq_true rfl) rfl rfl ?_
  refine x_iload_n dJ5_newCapacity_0f7a4_13 rfl rfl ?_
  refine x_iload_n dJ5_newCapacity_0f7a4_14 rfl rfl ?_
  refine x_isub dJ5_newCapacity_0f7a4_15 ?_
  refine x_istore (ls' := [(2, (b : Int)), (0, m), (0, (N : Int)), (0, m), (0, m - N), (9, 0)]) dJ5_newCapacity_0f7a4_16 (Nat.le_of_ble_eq_true rfl) rfl rfl ?_
  refine x_iload_n dJ5_newCapacity_0f7a4_18 rfl rfl ?_
  refine x_iload dJ5_newCapacity_0f7a4_19 rfl ?_
  refine x_iload_n dJ5_newCapacity_0f7a4_21 rfl rfl ?_
  refine x_iconst dJ5_newCapacity_0f7a4_22 ?_
  refine x_aload_n dJ5_newCapacity_0f7a4_23 rfl rfl (by omega) ?_
  refine x_getI (f := 1) fJ5_newCapacity_0f7a4_24 rfl h1 (by decide) rfl ?_
  refine x_shl0 dJ5_newCapacity_0f7a4_27 (R32.in (by decide)) h4 ?_
  refine x_iadd dJ5_newCapacity_0f7a4_28 ?_
  refine x_callSX (as := [(0, (N : Int)), (0, m - N), (0, (N : Int) + 2)]) (rest := []) (k := 1) (mc := 0) (ms := 0) (P := puP G μ (some (0, (N : Int) + max (m - N) (N + 2)))) fJ5_newCapacity_0f7a4_29 ⟨Nat.le_of_ble_eq_true rfl, Nat.le_of_ble_eq_true rfl⟩ ⟨Nat.le_refl _, Nat.le_refl _⟩ xK_A hw rfl rfl rfl rfl rfl (Nat.le_of_ble_eq_true rfl) ⟨fun _ => (by omega), nt_no (by decide), nt_no (by decide), nt_no (by decide), nt_no (by decide), nt_no (by decide), trivial⟩ trivial (s_J8_newLength (by omega) (by omega) (by omega)) (fun G' r μ' hp hx => ?_)
  obtain ⟨rfl, rfl, rfl⟩ := hp
  refine x_istore (ls' := [(2, (b : Int)), (0, m), (0, (N : Int)), (0, m), (0, m - N), (0, (N : Int) + max (m - N) (N + 2))]) dJ5_newCapacity_0f7a4_32 (Nat.le_of_ble_eq_true rfl) rfl rfl ?_
  refine x_iload dJ5_newCapacity_0f7a4_34 rfl ?_
  refine x_ldc (n := 2147483647) dJ5_newCapacity_0f7a4_36 kw_max rfl ?_
  refine x_icmp_ne (tgt := 51) dJ5_newCapacity_0f7a4_38 rfl (R32.in (by omega)) (R32.in (by decide)) (fun _ => ?_) (fun h => absurd h (by omega))
  refine x_iload dJ5_newCapacity_0f7a4_51 rfl ?_
  refine x_aload_n dJ5_newCapacity_0f7a4_53 rfl rfl (by omega) ?_
  refine x_getI (f := 1) fJ5_newCapacity_0f7a4_54 rfl h1 (by decide) rfl ?_
  refine x_shr0 dJ5_newCapacity_0f7a4_57 (R32.in (by omega)) h4 ?_
  exact x_iretX dJ5_newCapacity_0f7a4_58 rfl ⟨Nat.le_refl _, Nat.le_refl _⟩ Xt.rf ⟨rfl, rfl, rfl⟩
/-- how long the row is then -/
def enN (N : Nat) (m : Int) : Nat := ((N : Int) + max (m - N) (N + 2)).toNat
def enP (G : AG) (μ : Mu) (b ρ N : Nat) (m : Int) : AG → Option AV → Mu → Prop := fun G' r μ' => (m ≤ N ∧ G' = G ∧ r = none ∧ μ' = μ) ∨ ((N : Int) < m ∧ ∃ q, G' = ax G (22, enN N m) q ∧ r = none ∧ μ' = am_up (am_cq (am_nw μ (gS G).length) ρ (gS G).length 0 0 N) b 0 ((gS G).length : Int))
theorem s_J5_ensure {b ρ N : Nat} {m : Int} (h : BDs G μ b ρ N) (hm : 0 ≤ m ∧ m ≤ 45000) (hw : wfm G μ) : Gx (xK G M_J5_ensureCapacityInternal_d00df 1 (enN N m) (enP G μ b ρ N m)) G M_J5_ensureCapacityInternal_d00df 0 0 0 [(2, (b : Int)), (0, m), (9, 0)] [] μ := by
  obtain ⟨⟨h1, h2⟩, ⟨h3, h4⟩, h5, h6⟩ := id h
  have hb := (List.getElem?_eq_some_iff.mp h1).1
  have hr := (List.getElem?_eq_some_iff.mp h2).1
  refine x_aload_n dJ5_ensureCapacityInternal_d00df_0 rfl rfl (by omega) ?_
  refine x_getD (f := 0) fJ5_ensureCapacityInternal_d00df_1 rfl h1 rfl rfl ?_
  refine Gx.topE h3 ?_
  refine x_alen (t := 2) (f := (N : Int)) dJ5_ensureCapacityInternal_d00df_4 rfl h2 (by decide) rfl ?_
  refine x_aload_n dJ5_ensureCapacityInternal_d00df_5 rfl rfl (by omega) ?_
  refine x_getI (f := 1) fJ5_ensureCapacityInternal_d00df_6 rfl h1 (by decide) rfl ?_
  refine x_shr0 dJ5_ensureCapacityInternal_d00df_9 (R32.in (by omega)) h4 ?_
  refine x_istore_n (ls' := [(2, (b : Int)), (0, m), (0, (N : Int))]) dJ5_ensureCapacityInternal_d00df_10 rfl (Nat.le_of_ble_eq_true rfl) rfl rfl ?_
  refine x_iload_n dJ5_ensureCapacityInternal_d00df_11 rfl rfl ?_
  refine x_iload_n dJ5_ensureCapacityInternal_d00df_12 rfl rfl ?_
  refine x_isub dJ5_ensureCapacityInternal_d00df_13 ?_
  refine x_if_le (tgt := 38) dJ5_ensureCapacityInternal_d00df_14 rfl (R32.in (by omega)) (fun c => ?_) (fun c => ?_)
  · exact x_vretX dJ5_ensureCapacityInternal_d00df_38 rfl ⟨by omega, by omega⟩ Xt.rf (Or.inl ⟨by omega, rfl, rfl, rfl⟩)
  · have hN2 : ((enN N m : Nat) : Int) = (N : Int) + max (m - N) (N + 2) := by unfold enN; omega
    refine x_aload_n dJ5_ensureCapacityInternal_d00df_17 rfl rfl (by omega) ?_
    refine x_aload_n dJ5_ensureCapacityInternal_d00df_18 rfl rfl (by omega) ?_
    refine x_getD (f := 0) fJ5_ensureCapacityInternal_d00df_19 rfl h1 rfl rfl ?_
    refine Gx.topE h3 ?_
    refine x_aload_n dJ5_ensureCapacityInternal_d00df_22 rfl rfl (by omega) ?_
    refine x_iload_n dJ5_ensureCapacityInternal_d00df_23 rfl rfl ?_
    refine x_callWX (as := [(0, m)]) (rest := [(2, (ρ : Int)), (2, (b : Int))]) (k := 4) (mc := 0) (ms := 0) fJ5_ensureCapacityInternal_d00df_24 ⟨Nat.le_of_ble_eq_true rfl, Nat.le_of_ble_eq_true rfl⟩ ⟨show 0 + 0 ≤ 1 by omega, show 0 + 0 ≤ enN N m by omega⟩ xK_A hw rfl rfl h1 rfl rfl rfl rfl rfl (Nat.le_of_ble_eq_true rfl) ⟨fun _ => (by omega), nt_no (by decide), nt_no (by decide), trivial⟩ ⟨fun _ => (by omega), fun _ => (by omega), trivial⟩ (s_J5_newCapacity h ⟨by omega, by omega⟩ hw) (fun G' μ' r hp hx => ?_)
    obtain ⟨rfl, rfl, rfl⟩ := hp
    refine x_aload_n dJ5_ensureCapacityInternal_d00df_27 rfl rfl (by omega) ?_
    refine x_getI (f := 1) fJ5_ensureCapacityInternal_d00df_28 rfl h1 (by decide) rfl ?_
    refine x_shl0 dJ5_ensureCapacityInternal_d00df_31 (R32.in (by omega)) h4 ?_
    refine Gx.topE hN2.symm ?_
    refine x_callSX (as := [(2, (ρ : Int)), (0, ((enN N m : Nat) : Int))]) (rest := [(2, (b : Int))]) (k := 1) (mc := 1) (ms := enN N m) fJ5_ensureCapacityInternal_d00df_32 ⟨Nat.le_of_ble_eq_true rfl, Nat.le_of_ble_eq_true rfl⟩ ⟨show 0 + 0 + 1 ≤ 1 by omega, show 0 + 0 + enN N m ≤ enN N m by omega⟩ xK_A hw rfl rfl rfl rfl rfl (Nat.le_of_ble_eq_true rfl) ⟨fun _ => (by omega), nt_no (by decide), nt_no (by decide), trivial⟩ ⟨fun _ => (by omega), trivial⟩ (s_J7_copyOf h2 (by omega) (by omega) h6 hw) (fun G' r μ' hp hx => ?_)
    obtain ⟨q, rfl, rfl, rfl⟩ := hp
    have h' := Xt.sh (Xt.ax G' (22, enN N m) q) h1
    refine x_putA (f := 0) (ty := .byte) fJ5_ensureCapacityInternal_d00df_35 rfl h' rfl rfl rfl (by omega) ?_
    exact x_vretX dJ5_ensureCapacityInternal_d00df_38 rfl ⟨by omega, by omega⟩ (Xt.ax G' (22, enN N m) q) (Or.inr ⟨by omega, q, rfl, rfl, rfl⟩)
end gxs9
section gxs10
variable {K : XKt} {G G2 : AG} {M M2 : AMeth} {cs ss pc mc ms : Nat} {ls ls2 st rest as : List AV} {μ : Mu} {k n : Nat} {P : AG → Option AV → Mu → Prop} {C : String}
theorem fJ_coder_7g : am_Fg M_J_coder 7 8 1 := ⟨15, (RJ0, TJ0, 4), dJ_coder_7, rfl, Nat.le_of_ble_eq_true rfl, kj_1972⟩
theorem fJ_len_1g : am_Fg M_J_len 1 8 0 := ⟨9, (RJ0, TJ0, 4), dJ_len_1, rfl, Nat.le_of_ble_eq_true rfl, kj_1971⟩
theorem fJ_len_6g : g_Cw M_J_len 6 "java/lang/String" M_J_coder 0 := ⟨335, dJ_len_6, kj_519, kj_520, kj_521, ok_J_coder⟩
/-- a string (o), her row (its place, how long) -/
def STs (G : AG) (μ : Mu) (o ρ n : Nat) : Prop := ((gS G)[o]? = some (8, 4) ∧ (gS G)[ρ]? = some (22, n)) ∧ (μ o 0 = (ρ : Int) ∧ μ o 1 = 0) ∧ n ≤ 40000 ∧ ∀ i : Int, 0 ≤ i → i < n → 0 ≤ μ ρ i ∧ μ ρ i ≤ 127
theorem nar_b0 : narrow .byte (.int (Int32.ofInt 0)) = .int (Int32.ofInt 0) := by decide
theorem s_coder {o ρ n : Nat} (h : STs G μ o ρ n) : Gx (xK G M_J_coder 0 0 (puP G μ (some (0, 0)))) G M_J_coder 0 0 0 [(2, (o : Int))] [] μ := by
  obtain ⟨⟨h1, h2⟩, ⟨h3, h4⟩, h5, h6⟩ := id h
  refine x_getsC dJ_coder_0 rfl ?_
  refine x_if_eq (tgt := 13) dJ_coder_3 rfl (R32.in (by decide)) (fun h => absurd h (by decide)) (fun _ => ?_)
  refine x_aload_n dJ_coder_6 rfl rfl (by omega) ?_
  refine x_getI (f := 1) fJ_coder_7g rfl h1 (by decide) rfl ?_
  refine x_goto (tgt := 14) dJ_coder_10 rfl ?_
  refine Gx.topE h4 ?_
  exact x_nretX dJ_coder_14 rfl nar_b0 ⟨Nat.le_refl _, Nat.le_refl _⟩ Xt.rf ⟨rfl, rfl, rfl⟩
theorem s_len {o ρ n : Nat} (h : STs G μ o ρ n) (hw : wfm G μ) : Gx (xK G M_J_len 0 0 (puP G μ (some (0, (n : Int))))) G M_J_len 0 0 0 [(2, (o : Int))] [] μ := by
  obtain ⟨⟨h1, h2⟩, ⟨h3, h4⟩, h5, h6⟩ := id h
  have ho := (List.getElem?_eq_some_iff.mp h1).1
  refine x_aload_n dJ_len_0 rfl rfl (by omega) ?_
  refine x_getD (f := 0) fJ_len_1g rfl h1 rfl rfl ?_
  refine Gx.topE h3 ?_
  refine x_alen (t := 2) (f := (n : Int)) dJ_len_4 rfl h2 (by decide) rfl ?_
  refine x_aload_n dJ_len_5 rfl rfl (by omega) ?_
  refine x_callWX (as := []) (rest := [(0, (n : Int))]) (k := 0) (mc := 0) (ms := 0) fJ_len_6g ⟨Nat.le_of_ble_eq_true rfl, Nat.le_of_ble_eq_true rfl⟩ ⟨Nat.le_refl _, Nat.le_refl _⟩ xK_A hw rfl rfl h1 rfl rfl rfl rfl rfl (Nat.le_of_ble_eq_true rfl) ⟨fun _ => (by omega), trivial⟩ ⟨nt_no (by decide), trivial⟩ (s_coder h) (fun G' μ' r hp hx => ?_)
  obtain ⟨rfl, rfl, rfl⟩ := hp
  refine x_shr0 dJ_len_9 (R32.in (by omega)) rfl ?_
  exact x_iretX dJ_len_10 rfl ⟨Nat.le_refl _, Nat.le_refl _⟩ Xt.rf ⟨rfl, rfl, rfl⟩
/-- a row written -/
def roP (G : AG) (μ1 : Mu) : AG → Option AV → Mu → Prop := fun G' r μ' => G' = G ∧ r = none ∧ μ' = μ1
theorem s_J0_getBytes {o ρ n d D : Nat} {c : Int} (h : STs G μ o ρ n) (hd : (gS G)[d]? = some (22, D)) (hD : D ≤ 100000) (hc : 0 ≤ c ∧ c + n ≤ D) (hw : wfm G μ) : Gx (xK G M_J0_getBytes_840e7 0 0 (roP G (am_cq μ ρ d 0 c n))) G M_J0_getBytes_840e7 0 0 0 [(2, (o : Int)), (2, (d : Int)), (0, c), (0, 0)] [] μ := by
  obtain ⟨⟨h1, h2⟩, ⟨h3, h4⟩, h5, h6⟩ := id h
  have ho := (List.getElem?_eq_some_iff.mp h1).1
  have hd' := (List.getElem?_eq_some_iff.mp hd).1
  refine x_aload_n dJ0_getBytes_840e7_0 rfl rfl (by omega) ?_
  refine x_callWX (as := []) (rest := []) (k := 0) (mc := 0) (ms := 0) fJ0_getBytes_840e7_1 ⟨Nat.le_of_ble_eq_true rfl, Nat.le_of_ble_eq_true rfl⟩ ⟨Nat.le_refl _, Nat.le_refl _⟩ xK_A hw rfl rfl h1 rfl rfl rfl rfl rfl (Nat.le_of_ble_eq_true rfl) ⟨fun _ => (by omega), fun _ => (by omega), nt_no (by decide), nt_no (by decide), trivial⟩ trivial (s_coder h) (fun G' μ' r hp hx => ?_)
  obtain ⟨rfl, rfl, rfl⟩ := hp
  refine x_iload_n dJ0_getBytes_840e7_4 rfl rfl ?_
  refine x_icmp_ne (tgt := 28) dJ0_getBytes_840e7_5 rfl (R32.in (by decide)) (R32.in (by decide)) (fun h => absurd rfl h) (fun _ => ?_)
  refine x_aload_n dJ0_getBytes_840e7_8 rfl rfl (by omega) ?_
  refine x_getD (f := 0) fJ0_getBytes_840e7_9 rfl h1 rfl rfl ?_
  refine Gx.topE h3 ?_
  refine x_iconst dJ0_getBytes_840e7_12 ?_
  refine x_aload_n dJ0_getBytes_840e7_13 rfl rfl (by omega) ?_
  refine x_iload_n dJ0_getBytes_840e7_14 rfl rfl ?_
  refine x_iload_n dJ0_getBytes_840e7_15 rfl rfl ?_
  refine x_shl0 dJ0_getBytes_840e7_16 (R32.in (by omega)) rfl ?_
  refine x_aload_n dJ0_getBytes_840e7_17 rfl rfl (by omega) ?_
  refine x_getD (f := 0) fJ0_getBytes_840e7_18 rfl h1 rfl rfl ?_
  refine Gx.topE h3 ?_
  refine x_alen (t := 2) (f := (n : Int)) dJ0_getBytes_840e7_21 rfl h2 (by decide) rfl ?_
  refine x_copyB (o1 := ρ) (o2 := d) (n1 := n) (n2 := D) fJ0_getBytes_840e7_22 ⟨Nat.le_of_ble_eq_true rfl, Nat.le_of_ble_eq_true rfl⟩ rfl rfl h2 hd (by omega) (by omega) (by omega) (fun i a1 a2 => by have := h6 i a1 (by omega); omega) (Nat.le_of_ble_eq_true rfl) ?_
  refine x_goto (tgt := 43) dJ0_getBytes_840e7_25 rfl ?_
  exact x_vretX dJ0_getBytes_840e7_43 rfl ⟨Nat.le_refl _, Nat.le_refl _⟩ Xt.rf ⟨rfl, rfl, rfl⟩
theorem s_J5_inflate {b ρ N o ρ' n : Nat} (hb : BDs G μ b ρ N) (h : STs G μ o ρ' n) (hw : wfm G μ) : Gx (xK G M_J5_inflateIfNeededFor_a7421 0 0 (roP G μ)) G M_J5_inflateIfNeededFor_a7421 0 0 0 [(2, (b : Int)), (2, (o : Int))] [] μ := by
  obtain ⟨⟨h1, h2⟩, ⟨h3, h4⟩, h5, h6⟩ := id hb
  have hbl := (List.getElem?_eq_some_iff.mp h1).1
  have ho := (List.getElem?_eq_some_iff.mp h.1.1).1
  refine x_getsW dJ5_inflateIfNeededFor_a7421_0 kw_cs ?_
  refine x_if_eq (tgt := 21) dJ5_inflateIfNeededFor_a7421_3 rfl (R32.in (by decide)) (fun h => absurd h (by decide)) (fun _ => ?_)
  refine x_aload_n dJ5_inflateIfNeededFor_a7421_6 rfl rfl (by omega) ?_
  refine x_getI (f := 1) fJ5_inflateIfNeededFor_a7421_7 rfl h1 (by decide) rfl ?_
  refine x_aload_n dJ5_inflateIfNeededFor_a7421_10 rfl rfl (by omega) ?_
  refine x_callWX (as := []) (rest := [(0, μ b 1)]) (k := 0) (mc := 0) (ms := 0) fJ5_inflateIfNeededFor_a7421_11 ⟨Nat.le_of_ble_eq_true rfl, Nat.le_of_ble_eq_true rfl⟩ ⟨Nat.le_refl _, Nat.le_refl _⟩ xK_A hw rfl rfl h.1.1 rfl rfl rfl rfl rfl (Nat.le_of_ble_eq_true rfl) ⟨fun _ => (by omega), fun _ => (by omega), trivial⟩ ⟨nt_no (by decide), trivial⟩ (s_coder h) (fun G' μ' r hp hx => ?_)
  obtain ⟨rfl, rfl, rfl⟩ := hp
  refine x_icmp_eq (tgt := 21) dJ5_inflateIfNeededFor_a7421_14 rfl (by rw [h4]; exact R32.in (by decide)) (R32.in (by decide)) (fun _ => ?_) (fun q => absurd h4 q)
  exact x_vretX dJ5_inflateIfNeededFor_a7421_21 rfl ⟨Nat.le_refl _, Nat.le_refl _⟩ Xt.rf ⟨rfl, rfl, rfl⟩
theorem s_J5_putStringAt {b ρ N o ρ' n : Nat} {c : Int} (hb : BDs G μ b ρ N) (h : STs G μ o ρ' n) (hc : 0 ≤ c ∧ c + n ≤ N) (hw : wfm G μ) : Gx (xK G M_J5_putStringAt_47b60 0 0 (roP G (am_cq μ ρ' ρ 0 c n))) G M_J5_putStringAt_47b60 0 0 0 [(2, (b : Int)), (0, c), (2, (o : Int))] [] μ := by
  obtain ⟨⟨h1, h2⟩, ⟨h3, h4⟩, h5, h6⟩ := id hb
  have hbl := (List.getElem?_eq_some_iff.mp h1).1
  have hrl := (List.getElem?_eq_some_iff.mp h2).1
  have ho := (List.getElem?_eq_some_iff.mp h.1.1).1
  refine x_aload_n dJ5_putStringAt_47b60_0 rfl rfl (by omega) ?_
  refine x_aload_n dJ5_putStringAt_47b60_1 rfl rfl (by omega) ?_
  refine x_callWX (as := [(2, (o : Int))]) (rest := []) (k := 0) (mc := 0) (ms := 0) fJ5_putStringAt_47b60_2 ⟨Nat.le_of_ble_eq_true rfl, Nat.le_of_ble_eq_true rfl⟩ ⟨Nat.le_refl _, Nat.le_refl _⟩ xK_A hw rfl rfl h1 rfl rfl rfl rfl rfl (Nat.le_of_ble_eq_true rfl) ⟨fun _ => (by omega), nt_no (by decide), fun _ => (by omega), trivial⟩ trivial (s_J5_inflate hb h hw) (fun G' μ' r hp hx => ?_)
  obtain ⟨rfl, rfl, rfl⟩ := hp
  refine x_aload_n dJ5_putStringAt_47b60_5 rfl rfl (by omega) ?_
  refine x_aload_n dJ5_putStringAt_47b60_6 rfl rfl (by omega) ?_
  refine x_getD (f := 0) fJ5_putStringAt_47b60_7 rfl h1 rfl rfl ?_
  refine Gx.topE h3 ?_
  refine x_iload_n dJ5_putStringAt_47b60_10 rfl rfl ?_
  refine x_aload_n dJ5_putStringAt_47b60_11 rfl rfl (by omega) ?_
  refine x_getI (f := 1) fJ5_putStringAt_47b60_12 rfl h1 (by decide) rfl ?_
  refine Gx.topE h4 ?_
  refine x_callWX (as := [(2, (ρ : Int)), (0, c), (0, 0)]) (rest := []) (k := 0) (mc := 0) (ms := 0) fJ5_putStringAt_47b60_15 ⟨Nat.le_of_ble_eq_true rfl, Nat.le_of_ble_eq_true rfl⟩ ⟨Nat.le_refl _, Nat.le_refl _⟩ xK_A hw rfl rfl h.1.1 rfl rfl rfl rfl rfl (Nat.le_of_ble_eq_true rfl) ⟨fun _ => (by omega), nt_no (by decide), fun _ => (by omega), trivial⟩ trivial (s_J0_getBytes h h2 (by omega) hc hw) (fun G' μ' r hp hx => ?_)
  obtain ⟨rfl, rfl, rfl⟩ := hp
  exact x_vretX dJ5_putStringAt_47b60_18 rfl ⟨Nat.le_refl _, Nat.le_refl _⟩ Xt.rf ⟨rfl, rfl, rfl⟩
end gxs10
section gxs11
variable {K : XKt} {G G' : AG} {M M2 : AMeth} {cs ss pc mc ms : Nat} {ls ls2 st rest as : List AV} {μ μ1 : Mu} {k n : Nat} {r : Option AV} {C : String}
/-- the builder behind ensureCapacityInternal: her row is as long as asked -/
def enS (G : AG) (μ : Mu) (b ρ N : Nat) (m : Int) (G' : AG) (μ1 : Mu) (ρ1 N1 : Nat) : Prop :=
  (Xt G G' ∧ (gS G').length ≤ (gS G).length + 1) ∧ wfm G' μ1 ∧ BDs G' μ1 b ρ1 N1 ∧ (m ≤ N1 ∧ (N1 : Int) = if m ≤ N then (N : Int) else max m (2 * N + 2)) ∧ (∀ j : Int, 0 ≤ j → j < N → μ1 ρ1 j = μ ρ j) ∧ (μ1 b 2 = μ b 2 ∧ μ1 b 3 = μ b 3) ∧ (∀ o : Int, o < ((gS G).length : Int) → o ≠ b → μ1 o = μ o) ∧ (ρ1 = ρ ∨ ρ1 = (gS G).length) ∧ b ≠ ρ1
theorem en_state {b ρ N : Nat} {m : Int} (h : BDs G μ b ρ N) (hm : m ≤ 40000 ∧ 2 * (N : Int) + 2 ≤ 40000) (hw : wfm G μ) (hp : enP G μ b ρ N m G' r μ1) : r = none ∧ ∃ ρ1 N1, enS G μ b ρ N m G' μ1 ρ1 N1 := by
  obtain ⟨⟨h1, h2⟩, ⟨h3, h4⟩, h5, h6⟩ := id h
  have hb := (List.getElem?_eq_some_iff.mp h1).1
  have hr := (List.getElem?_eq_some_iff.mp h2).1
  have hne : b ≠ ρ := by
    intro q
    rw [q, h2] at h1
    cases h1
  rcases hp with ⟨a1, rfl, rfl, rfl⟩ | ⟨a1, q, rfl, rfl, rfl⟩
  · exact ⟨rfl, ρ, N, ⟨Xt.rf, by omega⟩, hw, h, ⟨a1, (if_pos a1).symm⟩, fun j _ _ => rfl, ⟨rfl, rfl⟩, fun o _ _ => rfl, Or.inl rfl, hne⟩
  · have hN2 : ((enN N m : Nat) : Int) = (N : Int) + max (m - N) (N + 2) := by unfold enN; omega
    refine ⟨rfl, (gS G).length, enN N m, ⟨Xt.ax G _ q, by rw [ax_len]; omega⟩, wfm_up (wfm_ax hw (show 20 ≤ 22 by decide) (fun o ho => by rw [am_cq_o ho, am_nw_o ho])) (by rw [ax_len]; omega), ⟨⟨Xt.sh (Xt.ax G _ q) h1, ax_sh⟩, ⟨am_up_at, ?_⟩, by omega, fun i i0 i1 => ?_⟩, ⟨by omega, by rw [if_neg (by omega)]; omega⟩, fun j j0 j1 => ?_, ⟨?_, ?_⟩, fun o o1 o2 => ?_, Or.inr rfl, by omega⟩
    · rw [am_up_nk (by decide), am_cq_o (by omega), am_nw_o (by omega)]; exact h4
    · rw [am_up_o (by omega), am_cq_at]
      split
      · rw [am_nw_o (by omega), show i - 0 + 0 = i by omega]; exact h6 i i0 (by omega)
      · rw [am_nw_at]; omega
    · rw [am_up_o (by omega), am_cq_at, if_pos ⟨j0, by omega⟩, am_nw_o (by omega), show j - 0 + 0 = j by omega]
    · rw [am_up_nk (by decide), am_cq_o (by omega), am_nw_o (by omega)]
    · rw [am_up_nk (by decide), am_cq_o (by omega), am_nw_o (by omega)]
    · rw [am_up_o o2, am_cq_o (by omega), am_nw_o (by omega)]
/-- the builder behind an append: txt, of len bytes, behind what she held -/
def apP (G : AG) (μ : Mu) (b ρ N : Nat) (n len : Int) (txt : Int → Int) : AG → Option AV → Mu → Prop := fun G' r μ' => r = some (2, (b : Int)) ∧ ∃ ρ1 N1 : Nat, (Xt G G' ∧ (gS G').length ≤ (gS G).length + 1) ∧ wfm G' μ' ∧ BDs G' μ' b ρ1 N1 ∧ (n + len ≤ N1 ∧ (N1 : Int) = if n + len ≤ N then (N : Int) else max (n + len) (2 * N + 2)) ∧ μ' b 3 = n + len ∧ (∀ j : Int, 0 ≤ j → j < n → μ' ρ1 j = μ ρ j) ∧ (∀ j : Int, 0 ≤ j → j < len → μ' ρ1 (n + j) = txt j) ∧ (∀ o : Int, o < ((gS G).length : Int) → o ≠ b → o ≠ ρ → μ' o = μ o) ∧ (ρ1 = ρ ∨ ρ1 = (gS G).length)
theorem s_J5_append_s {b ρ N o ρ' l : Nat} {n : Int} (hb : BDs G μ b ρ N) (h : STs G μ o ρ' l) (hn : μ b 3 = n ∧ 0 ≤ n ∧ n ≤ N) (hm : n + l ≤ 40000 ∧ 2 * (N : Int) + 2 ≤ 40000) (hne : ρ' ≠ ρ) (hw : wfm G μ) :
    Gx (xK G M_J5_append_cf1ce 1 (enN N (n + l)) (apP G μ b ρ N n l (fun j => μ ρ' j))) G M_J5_append_cf1ce 0 0 0 [(2, (b : Int)), (2, (o : Int)), (9, 0)] [] μ := by
  obtain ⟨⟨h1, h2⟩, ⟨h3, h4⟩, h5, h6⟩ := id hb
  obtain ⟨⟨g1, g2⟩, ⟨g3, g4⟩, g5, g6⟩ := id h
  have hbl := (List.getElem?_eq_some_iff.mp h1).1
  have hrl := (List.getElem?_eq_some_iff.mp h2).1
  have hol := (List.getElem?_eq_some_iff.mp g1).1
  have hpl := (List.getElem?_eq_some_iff.mp g2).1
  have hbo : o ≠ b := by intro q; rw [q, h1] at g1; cases g1
  have hbp : ρ' ≠ b := by intro q; rw [q, h1] at g2; cases g2
  refine x_aload_n dJ5_append_cf1ce_0 rfl rfl (by omega) ?_
  refine x_ifnonnull_r (tgt := 9) dJ5_append_cf1ce_1 rfl (by omega) ?_
  refine x_aload_n dJ5_append_cf1ce_9 rfl rfl (by omega) ?_
  refine x_callWX (as := []) (rest := []) (k := 0) (mc := 0) (ms := 0) fJ5_append_cf1ce_10 ⟨Nat.le_of_ble_eq_true rfl, Nat.le_of_ble_eq_true rfl⟩ ⟨show 0 + 0 ≤ 1 by omega, show 0 + 0 ≤ enN N (n + l) by omega⟩ xK_A hw rfl rfl g1 rfl rfl rfl rfl rfl (Nat.le_of_ble_eq_true rfl) ⟨fun _ => (by omega), fun _ => (by omega), nt_no (by decide), trivial⟩ trivial (s_len h hw) (fun G' μ' r hp hx => ?_)
  obtain ⟨rfl, rfl, rfl⟩ := hp
  refine x_istore_n (ls' := [(2, (b : Int)), (2, (o : Int)), (0, (l : Int))]) dJ5_append_cf1ce_13 rfl (Nat.le_of_ble_eq_true rfl) rfl rfl ?_
  refine x_aload_n dJ5_append_cf1ce_14 rfl rfl (by omega) ?_
  refine x_aload_n dJ5_append_cf1ce_15 rfl rfl (by omega) ?_
  refine x_getI (f := 3) fJ5_append_cf1ce_16 rfl h1 (by decide) rfl ?_
  refine Gx.topE hn.1 ?_
  refine x_iload_n dJ5_append_cf1ce_19 rfl rfl ?_
  refine x_iadd dJ5_append_cf1ce_20 ?_
  refine x_callWX (as := [(0, n + l)]) (rest := []) (k := 1) (mc := 1) (ms := enN N (n + l)) (P := enP G' μ' b ρ N (n + l)) fJ5_append_cf1ce_21 ⟨Nat.le_of_ble_eq_true rfl, Nat.le_of_ble_eq_true rfl⟩ ⟨show 0 + 0 + 1 ≤ 1 by omega, show 0 + 0 + enN N (n + l) ≤ enN N (n + l) by omega⟩ xK_A hw rfl rfl h1 rfl rfl rfl rfl rfl (Nat.le_of_ble_eq_true rfl) ⟨fun _ => (by omega), fun _ => (by omega), nt_no (by decide), trivial⟩ trivial (s_J5_ensure hb (by omega) hw) (fun G2 μ1 r hp hx2 => ?_)
  obtain ⟨rfl, ρ1, N1, ⟨e1, e1'⟩, e2, e3, e4, e5, ⟨e6, e6'⟩, e7, e8, e9⟩ := en_state hb (by omega) hw hp
  obtain ⟨⟨k1, k2⟩, ⟨k3, k4⟩, k5, k6⟩ := id e3
  have hLL := e1.len
  have hst : STs G2 μ1 o ρ' l := ⟨⟨Xt.sh e1 g1, Xt.sh e1 g2⟩, ⟨by rw [e7 o (by omega) (by omega)]; exact g3, by rw [e7 o (by omega) (by omega)]; exact g4⟩, g5, fun i i0 i1 => by rw [e7 ρ' (by omega) (by omega)]; exact g6 i i0 i1⟩
  have hrl1 := (List.getElem?_eq_some_iff.mp k2).1
  have hpr : ρ' ≠ ρ1 := by rcases e8 with q | q <;> omega
  refine x_aload_n dJ5_append_cf1ce_24 rfl rfl (by omega) ?_
  refine x_aload_n dJ5_append_cf1ce_25 rfl rfl (by omega) ?_
  refine x_getI (f := 3) fJ5_append_cf1ce_26 rfl k1 (by decide) rfl ?_
  refine Gx.topE (e6'.trans hn.1) ?_
  refine x_aload_n dJ5_append_cf1ce_29 rfl rfl (by omega) ?_
  refine x_callWX (as := [(0, n), (2, (o : Int))]) (rest := []) (k := 0) (mc := 0) (ms := 0) fJ5_append_cf1ce_30 ⟨Nat.le_of_ble_eq_true rfl, Nat.le_of_ble_eq_true rfl⟩ ⟨show 0 + 0 + 1 + 0 ≤ 1 by omega, show 0 + 0 + enN N (n + l) + 0 ≤ enN N (n + l) by omega⟩ xK_A e2 rfl rfl k1 rfl rfl rfl rfl rfl (Nat.le_of_ble_eq_true rfl) ⟨fun _ => (by omega), fun _ => (by omega), nt_no (by decide), trivial⟩ trivial (s_J5_putStringAt e3 hst ⟨hn.2.1, by omega⟩ e2) (fun G3 μ2 r hp hx3 => ?_)
  obtain ⟨rfl, rfl, rfl⟩ := hp
  have hb3 : am_cq μ1 ρ' ρ1 0 n l b 3 = n := by rw [am_cq_o (by omega), e6', hn.1]
  refine x_aload_n dJ5_append_cf1ce_33 rfl rfl (by omega) ?_
  refine x_dup dJ5_append_cf1ce_34 (by simp) ?_
  refine x_getI (f := 3) fJ5_append_cf1ce_35 rfl k1 (by decide) rfl ?_
  refine Gx.topE hb3 ?_
  refine x_iload_n dJ5_append_cf1ce_38 rfl rfl ?_
  refine x_iadd dJ5_append_cf1ce_39 ?_
  refine x_putI (f := 3) fJ5_append_cf1ce_40 rfl k1 rfl rfl rfl ?_
  refine x_aload_n dJ5_append_cf1ce_43 rfl rfl (by omega) ?_
  refine x_aret dJ5_append_cf1ce_44 rfl (Or.inl ⟨_, rfl⟩) ⟨by omega, by omega⟩ e1 ⟨rfl, ρ1, N1, ⟨e1, e1'⟩, ?_, ⟨⟨k1, k2⟩, ⟨?_, ?_⟩, k5, fun i i0 i1 => ?_⟩, e4, am_up_at, fun j j0 j1 => ?_, fun j j0 j1 => ?_, fun o2 o1 o2b o2r => ?_, e8⟩
  · intro o2 ci n2 hs hci k hk
    obtain ⟨w1, w2⟩ := e2 o2 ci n2 hs hci k hk
    refine ⟨w1, fun q => ?_⟩
    have hne1 : (o2 : Int) ≠ (ρ1 : Int) := by
      intro z
      have z' : o2 = ρ1 := by omega
      rw [z', k2] at hs
      cases hs
      omega
    by_cases z : (o2 : Int) = (b : Int)
    · have z' : o2 = b := by omega
      subst z'
      have hz : ((k : Nat) : Int) ≠ 3 := by
        intro z3
        have z4 : k = 3 := by omega
        rw [k1] at hs
        cases hs
        subst z4
        exact absurd q (by decide)
      rw [am_up_nk hz, am_cq_o hne1]
      exact w2 q
    · rw [am_up_o z, am_cq_o hne1]
      exact w2 q
  · rw [am_up_nk (by decide), am_cq_o (by omega)]; exact k3
  · rw [am_up_nk (by decide), am_cq_o (by omega)]; exact k4
  · rw [am_up_o (by omega), am_cq_at]
    split
    · rw [e7 ρ' (by omega) (by omega)]; have := g6 (i - n + 0) (by omega) (by omega); omega
    · exact k6 i i0 i1
  · rw [am_up_o (by omega), am_cq_at, if_neg (by omega)]; exact e5 j j0 (by omega)
  · rw [am_up_o (by omega), am_cq_at, if_pos (by omega), e7 ρ' (by omega) (by omega), show n + j - n + 0 = j by omega]
  · rw [am_up_o o2b, am_cq_o (by rcases e8 with q | q <;> omega)]; exact e7 o2 o1 o2b
end gxs11
section gxs12
variable {K : XKt} {G G' : AG} {M M2 : AMeth} {cs ss pc mc ms : Nat} {ls ls2 st rest as : List AV} {μ μ1 : Mu} {k n : Nat} {r : Option AV} {C : String}
theorem s_append_s {b ρ N o ρ' l : Nat} {n : Int} (hb : BDs G μ b ρ N) (h : STs G μ o ρ' l) (hn : μ b 3 = n ∧ 0 ≤ n ∧ n ≤ N) (hm : n + l ≤ 40000 ∧ 2 * (N : Int) + 2 ≤ 40000) (hne : ρ' ≠ ρ) (hw : wfm G μ) :
    Gx (xK G M_J4_append_15ec4 1 (enN N (n + l)) (apP G μ b ρ N n l (fun j => μ ρ' j))) G M_J4_append_15ec4 0 0 0 [(2, (b : Int)), (2, (o : Int))] [] μ := by
  have hbl := (List.getElem?_eq_some_iff.mp hb.1.1).1
  have hol := (List.getElem?_eq_some_iff.mp h.1.1).1
  refine x_aload_n dJ4_append_15ec4_0 rfl rfl (by omega) ?_
  refine x_aload_n dJ4_append_15ec4_1 rfl rfl (by omega) ?_
  refine x_callUX (C := "java/lang/StringBuilder") (as := [(2, (o : Int))]) (rest := []) (k := 1) (mc := 1) (ms := enN N (n + l)) fJ4_append_15ec4_2 ⟨Nat.le_of_ble_eq_true rfl, Nat.le_of_ble_eq_true rfl⟩ ⟨show 0 + 1 ≤ 1 by omega, show 0 + enN N (n + l) ≤ enN N (n + l) by omega⟩ xK_A hw rfl rfl hb.1.1 rfl rfl rfl rfl rfl (Nat.le_of_ble_eq_true rfl) ⟨fun _ => (by omega), fun _ => (by omega), trivial⟩ trivial (s_J5_append_s hb h hn hm hne hw) (fun G' μ' r hp hx => ?_)
  obtain ⟨rfl, hp⟩ := hp
  refine x_pop dJ4_append_15ec4_5 (show (2 : Nat) ≠ 1 by decide) ?_
  refine x_aload_n dJ4_append_15ec4_6 rfl rfl (by omega) ?_
  exact x_aret dJ4_append_15ec4_7 rfl (Or.inl ⟨_, rfl⟩) ⟨by omega, by omega⟩ hx ⟨rfl, hp⟩
-- numbers of one or two digits
theorem s_stringSize {v : Int} (hv : 0 ≤ v ∧ v ≤ 99) : Gx (xK G M_J6_stringSize_0f7a4 0 0 (puP G μ (some (0, if v < 10 then 1 else 2)))) G M_J6_stringSize_0f7a4 0 0 0 [(0, v), (9, 0), (9, 0), (9, 0)] [] μ := by
  refine x_iconst dJ6_stringSize_0f7a4_0 ?_
  refine x_istore_n (ls' := [(0, v), (0, 1), (9, 0), (9, 0)]) dJ6_stringSize_0f7a4_1 rfl (Nat.le_of_ble_eq_true rfl) rfl rfl ?_
  refine x_iload_n dJ6_stringSize_0f7a4_2 rfl rfl ?_
  refine x_if_lt (tgt := 11) dJ6_stringSize_0f7a4_3 rfl (R32.in (by omega)) (fun h => absurd h (by omega)) (fun _ => ?_)
  refine x_iconst dJ6_stringSize_0f7a4_6 ?_
  refine x_istore_n (ls' := [(0, v), (0, 0), (9, 0), (9, 0)]) dJ6_stringSize_0f7a4_7 rfl (Nat.le_of_ble_eq_true rfl) rfl rfl ?_
  refine x_iload_n dJ6_stringSize_0f7a4_8 rfl rfl ?_
  refine x_ineg dJ6_stringSize_0f7a4_9 ?_
  refine x_istore_n (ls' := [(0, -v), (0, 0), (9, 0), (9, 0)]) dJ6_stringSize_0f7a4_10 rfl (Nat.le_of_ble_eq_true rfl) rfl rfl ?_
  refine x_bipush dJ6_stringSize_0f7a4_11 (by decide) ?_
  refine x_istore_n (ls' := [(0, -v), (0, 0), (0, -10), (9, 0)]) dJ6_stringSize_0f7a4_13 rfl (Nat.le_of_ble_eq_true rfl) rfl rfl ?_
  refine x_iconst dJ6_stringSize_0f7a4_14 ?_
  refine x_istore_n (ls' := [(0, -v), (0, 0), (0, -10), (0, 1)]) dJ6_stringSize_0f7a4_15 rfl (Nat.le_of_ble_eq_true rfl) rfl rfl ?_
  refine x_iload_n dJ6_stringSize_0f7a4_16 rfl rfl ?_
  refine x_bipush dJ6_stringSize_0f7a4_17 (by decide) ?_
  refine x_icmp_ge (tgt := 42) dJ6_stringSize_0f7a4_19 rfl (R32.in (by decide)) (R32.in (by decide)) (fun h => absurd h (by decide)) (fun _ => ?_)
  refine x_iload_n dJ6_stringSize_0f7a4_22 rfl rfl ?_
  refine x_iload_n dJ6_stringSize_0f7a4_23 rfl rfl ?_
  refine x_icmp_le (tgt := 31) dJ6_stringSize_0f7a4_24 rfl (R32.in (by omega)) (R32.in (by decide)) (fun c => ?_) (fun c => ?_)
  · refine x_bipush dJ6_stringSize_0f7a4_31 (by decide) ?_
    refine x_iload_n dJ6_stringSize_0f7a4_33 rfl rfl ?_
    refine x_imul dJ6_stringSize_0f7a4_34 ?_
    refine x_istore_n (ls' := [(0, -v), (0, 0), (0, 10 * -10), (0, 1)]) dJ6_stringSize_0f7a4_35 rfl (Nat.le_of_ble_eq_true rfl) rfl rfl ?_
    refine x_iinc (ls' := [(0, -v), (0, 0), (0, 10 * -10), (0, 1 + 1)]) dJ6_stringSize_0f7a4_36 rfl (Nat.le_of_ble_eq_true rfl) rfl rfl ?_
    refine x_goto (tgt := 16) dJ6_stringSize_0f7a4_39 rfl ?_
    refine x_iload_n dJ6_stringSize_0f7a4_16 rfl rfl ?_
    refine x_bipush dJ6_stringSize_0f7a4_17 (by decide) ?_
    refine x_icmp_ge (tgt := 42) dJ6_stringSize_0f7a4_19 rfl (R32.in (by decide)) (R32.in (by decide)) (fun h => absurd h (by decide)) (fun _ => ?_)
    refine x_iload_n dJ6_stringSize_0f7a4_22 rfl rfl ?_
    refine x_iload_n dJ6_stringSize_0f7a4_23 rfl rfl ?_
    refine x_icmp_le (tgt := 31) dJ6_stringSize_0f7a4_24 rfl (R32.in (by omega)) (R32.in (by decide)) (fun c2 => absurd c2 (by omega)) (fun _ => ?_)
    refine x_iload_n dJ6_stringSize_0f7a4_27 rfl rfl ?_
    refine x_iload_n dJ6_stringSize_0f7a4_28 rfl rfl ?_
    refine x_iadd dJ6_stringSize_0f7a4_29 ?_
    exact x_iretX dJ6_stringSize_0f7a4_30 rfl ⟨Nat.le_refl _, Nat.le_refl _⟩ Xt.rf ⟨rfl, by rw [if_neg (by omega)]; rfl, rfl⟩
  · refine x_iload_n dJ6_stringSize_0f7a4_27 rfl rfl ?_
    refine x_iload_n dJ6_stringSize_0f7a4_28 rfl rfl ?_
    refine x_iadd dJ6_stringSize_0f7a4_29 ?_
    exact x_iretX dJ6_stringSize_0f7a4_30 rfl ⟨Nat.le_refl _, Nat.le_refl _⟩ Xt.rf ⟨rfl, by rw [if_pos (by omega)]; rfl, rfl⟩
end gxs12
section gxs13
variable {K : XKt} {G G' : AG} {M M2 : AMeth} {cs ss pc mc ms : Nat} {ls ls2 st rest as : List AV} {μ μ1 : Mu} {k n : Nat} {r : Option AV} {C : String}
theorem x_getsO {idx : Nat} (hd : decode M.2.1 pc = .ok (.getstatic idx, 3)) (hw : Cond.fieldLink M.1.cls idx "java/lang/Integer" "DigitOnes" "[B" ∈ TW) (kk : Gx K G M cs ss (pc + 3) ls ((3, 40) :: st) μ) : Gx K G M cs ss pc ls st μ :=
  Gx.stk (fun _ _ _ _ _ _ _ _ _ _ _ _ hx hb hI k => va_gets (v := .ref (gK G 40)) hx hb hI.2.2.2.2.2.1.1.2.2.2.2.2.2.2.2.1.1 hI.2.2.2.2.1 hI.1.2.2.2.1 (hI.1.2.2.2.2.1 _ hw) (fun _ h => h) hd k) kk
theorem x_getsT {idx : Nat} (hd : decode M.2.1 pc = .ok (.getstatic idx, 3)) (hw : Cond.fieldLink M.1.cls idx "java/lang/Integer" "DigitTens" "[B" ∈ TW) (kk : Gx K G M cs ss (pc + 3) ls ((3, 41) :: st) μ) : Gx K G M cs ss pc ls st μ :=
  Gx.stk (fun _ _ _ _ _ _ _ _ _ _ _ _ hx hb hI k => va_gets (v := .ref (gK G 41)) hx hb hI.2.2.2.2.2.1.1.2.2.2.2.2.2.2.2.2.1 hI.2.2.2.2.1 hI.1.2.2.2.1 (hI.1.2.2.2.2.1 _ hw) (fun _ h => h) hd k) kk
theorem x_baldO {x : Int} (hd : decode M.2.1 pc = .ok (.baload, 1)) (h : 0 ≤ x ∧ x < 100) (kk : Gx K G M cs ss (pc + 1) ls ((0, 48 + x % 10) :: st) μ) : Gx K G M cs ss pc ls ((0, x) :: (3, 40) :: st) μ := by
  obtain ⟨j, rfl⟩ : ∃ j : Nat, x = j := ⟨x.toNat, by omega⟩
  obtain ⟨h1, h2⟩ := am_clamp (i := (j : Int)) (n := 100) (by omega) (by omega) (by decide)
  have h3 : (Int32.ofInt (j : Int)).toNatClampNeg = j := by omega
  exact Gx.stk (fun _ _ _ _ _ _ _ _ _ _ _ _ hx hb hI k => va_tb hx hb hI.2.2.2.2.2.1.1.2.2.2.2.2.2.2.2.1.2 hI.2.2.2.2.1 h1 (v := .int (Int32.ofInt (48 + (j : Int) % 10))) (by
    show Value.int (Int32.ofNat (48 + (Int32.ofInt (j : Int)).toNatClampNeg % 10)) = _
    rw [h3, ← Int32.ofInt_eq_ofNat]
    congr 2) hd k) kk
theorem x_baldT {x : Int} (hd : decode M.2.1 pc = .ok (.baload, 1)) (h : 0 ≤ x ∧ x < 100) (kk : Gx K G M cs ss (pc + 1) ls ((0, 48 + x / 10) :: st) μ) : Gx K G M cs ss pc ls ((0, x) :: (3, 41) :: st) μ := by
  obtain ⟨j, rfl⟩ : ∃ j : Nat, x = j := ⟨x.toNat, by omega⟩
  obtain ⟨h1, h2⟩ := am_clamp (i := (j : Int)) (n := 100) (by omega) (by omega) (by decide)
  have h3 : (Int32.ofInt (j : Int)).toNatClampNeg = j := by omega
  exact Gx.stk (fun _ _ _ _ _ _ _ _ _ _ _ _ hx hb hI k => va_tb hx hb hI.2.2.2.2.2.1.1.2.2.2.2.2.2.2.2.2.2 hI.2.2.2.2.1 h1 (v := .int (Int32.ofInt (48 + (j : Int) / 10))) (by
    show Value.int (Int32.ofNat (48 + (Int32.ofInt (j : Int)).toNatClampNeg / 10)) = _
    rw [h3, ← Int32.ofInt_eq_ofNat]
    congr 2) hd k) kk
theorem i2b_s {a : Int} (h : 0 ≤ a ∧ a ≤ 127) : am_i2b a = a := by
  obtain ⟨j, rfl⟩ : ∃ j : Nat, a = j := ⟨a.toNat, by omega⟩
  have hall : ∀ j : Nat, j < 128 → am_i2b (j : Int) = j := by decide +kernel
  exact hall j (by omega)
theorem x_bastS {o n : Nat} {z i v : Int} (hd : decode M.2.1 pc = .ok (.bastore, 1)) (ho : z = (o : Int)) (hs : (gS G)[o]? = some (22, n)) (hn : n < 2147483648) (h0 : 0 ≤ i) (h1 : i < n) (hv : 0 ≤ v ∧ v ≤ 127) (kk : Gx K G M cs ss (pc + 1) ls st (am_up μ z i v)) : Gx K G M cs ss pc ls ((0, v) :: (0, i) :: (2, z) :: st) μ := by
  refine x_bast hd ho hs hn h0 h1 ?_
  rw [i2b_s hv]
  exact kk
def gcP (G : AG) (μ : Mu) (ρ : Nat) (v i : Int) : AG → Option AV → Mu → Prop := fun G' r μ' => G' = G ∧ (∃ z, r = some (0, z)) ∧ μ' = if v < 10 then am_up μ ρ (i - 1) (48 + v) else am_up (am_up μ ρ (i - 1) (48 + v % 10)) ρ (i - 2) (48 + v / 10)
end gxs13
section gxs14
variable {K : XKt} {G G' : AG} {M M2 : AMeth} {cs ss pc mc ms : Nat} {ls ls2 st rest as : List AV} {μ μ1 : Mu} {k n : Nat} {r : Option AV} {C : String}
theorem s_getChars {ρ N : Nat} {v i : Int} (h : (gS G)[ρ]? = some (22, N)) (hN : N ≤ 100000) (hv : 0 ≤ v ∧ v ≤ 99) (hi : (if v < 10 then 1 else 2) ≤ i ∧ i ≤ N) : Gx (xK G M_J6_getChars_ba4f3 0 0 (gcP G μ ρ v i)) G M_J6_getChars_ba4f3 0 0 0 [(0, v), (0, i), (2, (ρ : Int)), (9, 0), (9, 0), (9, 0), (9, 0)] [] μ := by
  have hr := (List.getElem?_eq_some_iff.mp h).1
  have hi1 : 1 ≤ i := by split at hi <;> omega
  refine x_iload_n dJ6_getChars_ba4f3_0 rfl rfl ?_
  refine x_istore (ls' := [(0, v), (0, i), (2, (ρ : Int)), (9, 0), (9, 0), (0, i), (9, 0)]) dJ6_getChars_ba4f3_1 (Nat.le_of_ble_eq_true rfl) rfl rfl ?_
  refine x_iload_n dJ6_getChars_ba4f3_3 rfl rfl ?_
  refine x_if_ge (tgt := 11) dJ6_getChars_ba4f3_4 rfl (R32.in (by omega)) (fun _ => ?_) (fun h => absurd h (by omega))
  refine x_iconst dJ6_getChars_ba4f3_11 ?_
  refine x_istore (ls' := [(0, v), (0, i), (2, (ρ : Int)), (9, 0), (9, 0), (0, i), (0, 0)]) dJ6_getChars_ba4f3_12 (Nat.le_of_ble_eq_true rfl) rfl rfl ?_
  refine x_iload dJ6_getChars_ba4f3_14 rfl ?_
  refine x_if_ne (tgt := 22) dJ6_getChars_ba4f3_16 rfl (R32.in (by decide)) (fun h => absurd rfl h) (fun _ => ?_)
  refine x_iload_n dJ6_getChars_ba4f3_19 rfl rfl ?_
  refine x_ineg dJ6_getChars_ba4f3_20 ?_
  refine x_istore_n (ls' := [(0, -v), (0, i), (2, (ρ : Int)), (9, 0), (9, 0), (0, i), (0, 0)]) dJ6_getChars_ba4f3_21 rfl (Nat.le_of_ble_eq_true rfl) rfl rfl ?_
  refine x_iload_n dJ6_getChars_ba4f3_22 rfl rfl ?_
  refine x_bipush dJ6_getChars_ba4f3_23 (by decide) ?_
  refine x_icmp_gt (tgt := 72) dJ6_getChars_ba4f3_25 rfl (R32.in (by omega)) (R32.in (by decide)) (fun _ => ?_) (fun h => absurd h (by omega))
  refine x_aload_n dJ6_getChars_ba4f3_72 rfl rfl (by omega) ?_
  refine x_iinc (ls' := [(0, -v), (0, i), (2, (ρ : Int)), (9, 0), (9, 0), (0, i + -1), (0, 0)]) dJ6_getChars_ba4f3_73 rfl (Nat.le_of_ble_eq_true rfl) rfl rfl ?_
  refine x_iload dJ6_getChars_ba4f3_76 rfl ?_
  refine x_getsO dJ6_getChars_ba4f3_78 kw_ones ?_
  refine x_iload_n dJ6_getChars_ba4f3_81 rfl rfl ?_
  refine x_ineg dJ6_getChars_ba4f3_82 ?_
  refine Gx.topE (b := v) (by omega) ?_
  refine x_baldO dJ6_getChars_ba4f3_83 ⟨hv.1, by omega⟩ ?_
  refine x_bastS dJ6_getChars_ba4f3_84 rfl h (by omega) (by omega) (by omega) (by omega) ?_
  refine x_iload_n dJ6_getChars_ba4f3_85 rfl rfl ?_
  refine x_bipush dJ6_getChars_ba4f3_86 (by decide) ?_
  refine x_icmp_ge (tgt := 104) dJ6_getChars_ba4f3_88 rfl (R32.in (by omega)) (R32.in (by decide)) (fun c => ?_) (fun c => ?_)
  · refine x_iload dJ6_getChars_ba4f3_104 rfl ?_
    refine x_if_eq (tgt := 118) dJ6_getChars_ba4f3_106 rfl (R32.in (by decide)) (fun _ => ?_) (fun h => absurd rfl h)
    refine x_iload dJ6_getChars_ba4f3_118 rfl ?_
    exact x_iretX dJ6_getChars_ba4f3_120 rfl ⟨Nat.le_refl _, Nat.le_refl _⟩ Xt.rf ⟨rfl, ⟨_, rfl⟩, by rw [if_pos (by omega), show v % 10 = v by omega]; rfl⟩
  · have hi2 : 2 ≤ i := by rw [if_neg (by omega)] at hi; exact hi.1
    refine x_aload_n dJ6_getChars_ba4f3_91 rfl rfl (by omega) ?_
    refine x_iinc (ls' := [(0, -v), (0, i), (2, (ρ : Int)), (9, 0), (9, 0), (0, i + -1 + -1), (0, 0)]) dJ6_getChars_ba4f3_92 rfl (Nat.le_of_ble_eq_true rfl) rfl rfl ?_
    refine x_iload dJ6_getChars_ba4f3_95 rfl ?_
    refine x_getsT dJ6_getChars_ba4f3_97 kw_tens ?_
    refine x_iload_n dJ6_getChars_ba4f3_100 rfl rfl ?_
    refine x_ineg dJ6_getChars_ba4f3_101 ?_
    refine Gx.topE (b := v) (by omega) ?_
    refine x_baldT dJ6_getChars_ba4f3_102 ⟨hv.1, by omega⟩ ?_
    refine x_bastS dJ6_getChars_ba4f3_103 rfl h (by omega) (by omega) (by omega) (by omega) ?_
    refine x_iload dJ6_getChars_ba4f3_104 rfl ?_
    refine x_if_eq (tgt := 118) dJ6_getChars_ba4f3_106 rfl (R32.in (by decide)) (fun _ => ?_) (fun h => absurd rfl h)
    refine x_iload dJ6_getChars_ba4f3_118 rfl ?_
    exact x_iretX dJ6_getChars_ba4f3_120 rfl ⟨Nat.le_refl _, Nat.le_refl _⟩ Xt.rf ⟨rfl, ⟨_, rfl⟩, by rw [if_neg (by omega), show i + -1 + -1 = i - 2 by omega]; rfl⟩
end gxs14
section gxs15
variable {K : XKt} {G G' : AG} {M M2 : AMeth} {cs ss pc mc ms : Nat} {ls ls2 st rest as : List AV} {μ μ1 : Mu} {k n : Nat} {r : Option AV} {C : String}
/-- a number's digits -/
def ndl (v : Int) : Int := if v < 10 then 1 else 2
def ndg (v j : Int) : Int := if v < 10 then 48 + v else if j = 0 then 48 + v / 10 else 48 + v % 10
theorem s_J5_append_i {b ρ N : Nat} {n v : Int} (hb : BDs G μ b ρ N) (hv : 0 ≤ v ∧ v ≤ 99) (hn : μ b 3 = n ∧ 0 ≤ n ∧ n ≤ N) (hm : n + 2 ≤ 40000 ∧ 2 * (N : Int) + 2 ≤ 40000) (hw : wfm G μ) :
    Gx (xK G M_J5_append_c97b9 1 (enN N (n + ndl v)) (apP G μ b ρ N n (ndl v) (ndg v))) G M_J5_append_c97b9 0 0 0 [(2, (b : Int)), (0, v), (9, 0), (9, 0)] [] μ := by
  obtain ⟨⟨h1, h2⟩, ⟨h3, h4⟩, h5, h6⟩ := id hb
  have hbl := (List.getElem?_eq_some_iff.mp h1).1
  have hrl := (List.getElem?_eq_some_iff.mp h2).1
  have hdl : 1 ≤ ndl v ∧ ndl v ≤ 2 := by unfold ndl; split <;> omega
  refine x_aload_n dJ5_append_c97b9_0 rfl rfl (by omega) ?_
  refine x_getI (f := 3) fJ5_append_c97b9_1 rfl h1 (by decide) rfl ?_
  refine Gx.topE hn.1 ?_
  refine x_istore_n (ls' := [(2, (b : Int)), (0, v), (0, n), (9, 0)]) dJ5_append_c97b9_4 rfl (Nat.le_of_ble_eq_true rfl) rfl rfl ?_
  refine x_iload_n dJ5_append_c97b9_5 rfl rfl ?_
  refine x_iload_n dJ5_append_c97b9_6 rfl rfl ?_
  refine x_callSX (as := [(0, v)]) (rest := [(0, n)]) (k := 3) (mc := 0) (ms := 0) (P := puP G μ (some (0, ndl v))) fJ5_append_c97b9_7 ⟨Nat.le_of_ble_eq_true rfl, Nat.le_of_ble_eq_true rfl⟩ ⟨show 0 + 0 ≤ 1 by omega, show 0 + 0 ≤ enN N (n + ndl v) by omega⟩ xK_A hw rfl rfl rfl rfl rfl (Nat.le_of_ble_eq_true rfl) ⟨fun _ => (by omega), nt_no (by decide), nt_no (by decide), nt_no (by decide), trivial⟩ ⟨nt_no (by decide), trivial⟩ (s_stringSize hv) (fun G' r μ' hp hx => ?_)
  obtain ⟨rfl, rfl, rfl⟩ := hp
  refine x_iadd dJ5_append_c97b9_10 ?_
  refine x_istore_n (ls' := [(2, (b : Int)), (0, v), (0, n), (0, n + ndl v)]) dJ5_append_c97b9_11 rfl (Nat.le_of_ble_eq_true rfl) rfl rfl ?_
  refine x_aload_n dJ5_append_c97b9_12 rfl rfl (by omega) ?_
  refine x_iload_n dJ5_append_c97b9_13 rfl rfl ?_
  refine x_callWX (as := [(0, n + ndl v)]) (rest := []) (k := 1) (mc := 1) (ms := enN N (n + ndl v)) (P := enP G' μ' b ρ N (n + ndl v)) fJ5_append_c97b9_14 ⟨Nat.le_of_ble_eq_true rfl, Nat.le_of_ble_eq_true rfl⟩ ⟨show 0 + 0 + 1 ≤ 1 by omega, show 0 + 0 + enN N (n + ndl v) ≤ enN N (n + ndl v) by omega⟩ xK_A hw rfl rfl h1 rfl rfl rfl rfl rfl (Nat.le_of_ble_eq_true rfl) ⟨fun _ => (by omega), nt_no (by decide), nt_no (by decide), nt_no (by decide), trivial⟩ trivial (s_J5_ensure hb (by omega) hw) (fun G2 μ1 r hp hx2 => ?_)
  obtain ⟨rfl, ρ1, N1, ⟨e1, e1'⟩, e2, e3, e4, e5, ⟨e6, e6'⟩, e7, e8, e9⟩ := en_state hb (by omega) hw hp
  obtain ⟨⟨k1, k2⟩, ⟨k3, k4⟩, k5, k6⟩ := id e3
  have hLL := e1.len
  have hrl1 := (List.getElem?_eq_some_iff.mp k2).1
  refine x_aload_n dJ5_append_c97b9_17 rfl rfl (by omega) ?_
  refine x_callWX (as := []) (rest := []) (k := 0) (mc := 0) (ms := 0) fJ5_append_c97b9_18 ⟨Nat.le_of_ble_eq_true rfl, Nat.le_of_ble_eq_true rfl⟩ ⟨show 0 + 0 + 1 + 0 ≤ 1 by omega, show 0 + 0 + enN N (n + ndl v) + 0 ≤ enN N (n + ndl v) by omega⟩ xK_A e2 rfl rfl k1 rfl rfl rfl rfl rfl (Nat.le_of_ble_eq_true rfl) ⟨fun _ => (by omega), nt_no (by decide), nt_no (by decide), nt_no (by decide), trivial⟩ trivial (s_J5_isLatin1 k1 k4) (fun G3 μ2 r hp hx3 => ?_)
  obtain ⟨rfl, rfl, rfl⟩ := hp
  refine x_if_eq (tgt := 37) dJ5_append_c97b9_21 rfl (R32.in (by decide)) (fun h => absurd h (by decide)) (fun _ => ?_)
  refine x_iload_n dJ5_append_c97b9_24 rfl rfl ?_
  refine x_iload_n dJ5_append_c97b9_25 rfl rfl ?_
  refine x_aload_n dJ5_append_c97b9_26 rfl rfl (by omega) ?_
  refine x_getD (f := 0) fJ5_append_c97b9_27 rfl k1 rfl rfl ?_
  refine Gx.topE k3 ?_
  refine x_callSX (as := [(0, v), (0, n + ndl v), (2, (ρ1 : Int))]) (rest := []) (k := 4) (mc := 0) (ms := 0) (P := gcP G3 μ2 ρ1 v (n + ndl v)) fJ5_append_c97b9_30 ⟨Nat.le_of_ble_eq_true rfl, Nat.le_of_ble_eq_true rfl⟩ ⟨show 0 + 0 + 1 + 0 + 0 ≤ 1 by omega, show 0 + 0 + enN N (n + ndl v) + 0 + 0 ≤ enN N (n + ndl v) by omega⟩ xK_A e2 rfl rfl rfl rfl rfl (Nat.le_of_ble_eq_true rfl) ⟨fun _ => (by omega), nt_no (by decide), nt_no (by decide), nt_no (by decide), trivial⟩ trivial (s_getChars k2 (by omega) hv ⟨by unfold ndl at *; split at * <;> omega, by omega⟩) (fun G4 r μ3 hp hx4 => ?_)
  obtain ⟨rfl, ⟨z, rfl⟩, hμ3⟩ := hp
  have o3 : ∀ o : Int, o ≠ (ρ1 : Int) → μ3 o = μ2 o := fun o ho => by
    rw [hμ3]
    split
    · rw [am_up_o ho]
    · rw [am_up_o ho, am_up_o ho]
  have r3 : ∀ j : Int, 0 ≤ j → j < n → μ3 ρ1 j = μ2 ρ1 j := fun j j0 j1 => by
    rw [hμ3]
    unfold ndl at *
    split
    · rw [am_up_nk (by split at * <;> omega)]
    · rw [am_up_nk (by split at * <;> omega), am_up_nk (by split at * <;> omega)]
  have d3 : ∀ j : Int, 0 ≤ j → j < ndl v → μ3 ρ1 (n + j) = ndg v j := fun j j0 j1 => by
    rw [hμ3]
    unfold ndl ndg at *
    by_cases hc : v < 10
    · simp only [if_pos hc] at *
      rw [show n + 1 - 1 = n + j by omega, am_up_at]
    · simp only [if_neg hc] at *
      by_cases hj : j = 0
      · rw [if_pos hj, show n + 2 - 2 = n + j by omega, am_up_at]
      · rw [if_neg hj, am_up_nk (by omega), show n + 2 - 1 = n + j by omega, am_up_at]
  have b3 : ∀ i : Int, 0 ≤ i → i < N1 → -128 ≤ μ3 ρ1 i ∧ μ3 ρ1 i ≤ 127 := fun i i0 i1 => by
    have := k6 i i0 i1
    rw [hμ3]
    unfold am_up
    split <;> simp only [if_true, if_pos rfl] <;> (try split) <;> (try split) <;> omega
  refine x_pop dJ5_append_c97b9_33 (show (0 : Nat) ≠ 1 by decide) ?_
  refine x_goto (tgt := 48) dJ5_append_c97b9_34 rfl ?_
  refine x_aload_n dJ5_append_c97b9_48 rfl rfl (by omega) ?_
  refine x_iload_n dJ5_append_c97b9_49 rfl rfl ?_
  refine x_putI (f := 3) fJ5_append_c97b9_50 rfl k1 rfl rfl rfl ?_
  refine x_aload_n dJ5_append_c97b9_53 rfl rfl (by omega) ?_
  refine x_aret dJ5_append_c97b9_54 rfl (Or.inl ⟨_, rfl⟩) ⟨by omega, by omega⟩ e1 ⟨rfl, ρ1, N1, ⟨e1, e1'⟩, ?_, ⟨⟨k1, k2⟩, ⟨?_, ?_⟩, k5, fun i i0 i1 => ?_⟩, e4, am_up_at, fun j j0 j1 => ?_, fun j j0 j1 => ?_, fun o2 o1 o2b o2r => ?_, e8⟩
  · intro o2 ci n2 hs hci k hk
    obtain ⟨w1, w2⟩ := e2 o2 ci n2 hs hci k hk
    refine ⟨w1, fun q => ?_⟩
    have hne1 : (o2 : Int) ≠ (ρ1 : Int) := by
      intro z
      have z' : o2 = ρ1 := by omega
      rw [z', k2] at hs
      cases hs
      omega
    by_cases z : (o2 : Int) = (b : Int)
    · have z' : o2 = b := by omega
      subst z'
      have hz : ((k : Nat) : Int) ≠ 3 := by
        intro z3
        have z4 : k = 3 := by omega
        rw [k1] at hs
        cases hs
        subst z4
        exact absurd q (by decide)
      rw [am_up_nk hz, o3 _ hne1]
      exact w2 q
    · rw [am_up_o z, o3 _ hne1]
      exact w2 q
  · rw [am_up_nk (by decide), o3 _ (by omega)]; exact k3
  · rw [am_up_nk (by decide), o3 _ (by omega)]; exact k4
  · rw [am_up_o (by omega)]; exact b3 i i0 i1
  · rw [am_up_o (by omega), r3 j j0 j1]; exact e5 j j0 (by omega)
  · rw [am_up_o (by omega)]; exact d3 j j0 j1
  · rw [am_up_o o2b, o3 _ (by rcases e8 with q | q <;> omega)]; exact e7 o2 o1 o2b
theorem s_append_i {b ρ N : Nat} {n v : Int} (hb : BDs G μ b ρ N) (hv : 0 ≤ v ∧ v ≤ 99) (hn : μ b 3 = n ∧ 0 ≤ n ∧ n ≤ N) (hm : n + 2 ≤ 40000 ∧ 2 * (N : Int) + 2 ≤ 40000) (hw : wfm G μ) :
    Gx (xK G M_J4_append_bf812 1 (enN N (n + ndl v)) (apP G μ b ρ N n (ndl v) (ndg v))) G M_J4_append_bf812 0 0 0 [(2, (b : Int)), (0, v)] [] μ := by
  have hbl := (List.getElem?_eq_some_iff.mp hb.1.1).1
  refine x_aload_n dJ4_append_bf812_0 rfl rfl (by omega) ?_
  refine x_iload_n dJ4_append_bf812_1 rfl rfl ?_
  refine x_callUX (C := "java/lang/StringBuilder") (as := [(0, v)]) (rest := []) (k := 2) (mc := 1) (ms := enN N (n + ndl v)) fJ4_append_bf812_2 ⟨Nat.le_of_ble_eq_true rfl, Nat.le_of_ble_eq_true rfl⟩ ⟨show 0 + 1 ≤ 1 by omega, show 0 + enN N (n + ndl v) ≤ enN N (n + ndl v) by omega⟩ xK_A hw rfl rfl hb.1.1 rfl rfl rfl rfl rfl (Nat.le_of_ble_eq_true rfl) ⟨fun _ => (by omega), nt_no (by decide), trivial⟩ trivial (s_J5_append_i hb hv hn hm hw) (fun G' μ' r hp hx => ?_)
  obtain ⟨rfl, hp⟩ := hp
  refine x_pop dJ4_append_bf812_5 (show (2 : Nat) ≠ 1 by decide) ?_
  refine x_aload_n dJ4_append_bf812_6 rfl rfl (by omega) ?_
  exact x_aret dJ4_append_bf812_7 rfl (Or.inl ⟨_, rfl⟩) ⟨by omega, by omega⟩ hx ⟨rfl, hp⟩
end gxs15
section gxs16
variable {K : XKt} {G G' : AG} {M M2 : AMeth} {cs ss pc mc ms : Nat} {ls ls2 st rest as : List AV} {μ μ1 : Mu} {k n : Nat} {r : Option AV} {C : String}
theorem s_checkLength {a b : Int} (h : a ≤ b) (ha : R32 a) (hb : R32 b) : Gx (xK G M_J7_checkLength_df160 0 0 (roP G μ)) G M_J7_checkLength_df160 0 0 0 [(0, a), (0, b)] [] μ := by
  refine x_iload_n dJ7_checkLength_df160_0 rfl rfl ?_
  refine x_iload_n dJ7_checkLength_df160_1 rfl rfl ?_
  refine x_icmp_ge (tgt := 37) dJ7_checkLength_df160_2 rfl hb ha (fun _ => ?_) (fun q => absurd q (by omega))
  exact x_vretX dJ7_checkLength_df160_37 rfl ⟨Nat.le_refl _, Nat.le_refl _⟩ Xt.rf ⟨rfl, rfl, rfl⟩
/-- the first n bytes of a row, as a row -/
def crP (G : AG) (μ : Mu) (o n : Nat) : AG → Option AV → Mu → Prop := fun G' r μ' => ∃ q, G' = ax G (22, n) q ∧ r = some (2, ((gS G).length : Int)) ∧ (∀ j : Int, 0 ≤ j → j < n → μ' ((gS G).length : Int) j = μ o j) ∧ ∀ a : Int, a ≠ ((gS G).length : Int) → μ' a = μ a
theorem s_copyOfRangeByte {o n N : Nat} (h : (gS G)[o]? = some (22, N)) (hn : n ≤ N) (hN : N ≤ 100000) (hb : ∀ i : Int, 0 ≤ i → i < N → -128 ≤ μ o i ∧ μ o i ≤ 127) (hw : wfm G μ) : Gx (xK G M_J7_copyOfRangeByte_39247 1 n (crP G μ o n)) G M_J7_copyOfRangeByte_39247 0 0 0 [(2, (o : Int)), (0, 0), (0, (n : Int)), (9, 0), (9, 0)] [] μ := by
  have ho := (List.getElem?_eq_some_iff.mp h).1
  refine x_iload_n dJ7_copyOfRangeByte_39247_0 rfl rfl ?_
  refine x_iload_n dJ7_copyOfRangeByte_39247_1 rfl rfl ?_
  refine x_callSX (as := [(0, 0), (0, (n : Int))]) (rest := []) (k := 0) (mc := 0) (ms := 0) (P := roP G μ) fJ7_copyOfRangeByte_39247_2 ⟨Nat.le_of_ble_eq_true rfl, Nat.le_of_ble_eq_true rfl⟩ ⟨show 0 + 0 ≤ 1 by omega, show 0 + 0 ≤ n by omega⟩ xK_A hw rfl rfl rfl rfl rfl (Nat.le_of_ble_eq_true rfl) ⟨fun _ => (by omega), nt_no (by decide), nt_no (by decide), nt_no (by decide), nt_no (by decide), trivial⟩ trivial (s_checkLength (by omega) (R32.in (by decide)) (R32.in (by omega))) (fun G' r μ' hp hx => ?_)
  obtain ⟨rfl, rfl, rfl⟩ := hp
  refine x_iload_n dJ7_copyOfRangeByte_39247_5 rfl rfl ?_
  refine x_iload_n dJ7_copyOfRangeByte_39247_6 rfl rfl ?_
  refine x_isub dJ7_copyOfRangeByte_39247_7 ?_
  refine Gx.topE (b := (n : Int)) (by omega) ?_
  refine x_istore_n (ls' := [(2, (o : Int)), (0, 0), (0, (n : Int)), (0, (n : Int)), (9, 0)]) dJ7_copyOfRangeByte_39247_8 rfl (Nat.le_of_ble_eq_true rfl) rfl rfl ?_
  refine x_iload_n dJ7_copyOfRangeByte_39247_9 rfl rfl ?_
  refine x_newaB (N := n) xK_A ⟨show 0 + 0 + 1 ≤ 1 by omega, show 0 + 0 + n ≤ n by omega⟩ dJ7_copyOfRangeByte_39247_10 kw_ab rfl (by omega) hw ⟨fun _ => (by omega), nt_no (by decide), nt_no (by decide), nt_no (by decide), nt_no (by decide), trivial⟩ trivial (fun q => ?_)
  have h' : (gS (ax G' (22, n) q))[o]? = some (22, N) := Xt.sh (Xt.ax G' (22, n) q) h
  refine x_astore (ls' := [(2, (o : Int)), (0, 0), (0, (n : Int)), (0, (n : Int)), (2, ((gS G').length : Int))]) dJ7_copyOfRangeByte_39247_12 (Nat.le_of_ble_eq_true rfl) rfl (by omega) rfl ?_
  refine x_aload_n dJ7_copyOfRangeByte_39247_14 rfl rfl (by omega) ?_
  refine x_iload_n dJ7_copyOfRangeByte_39247_15 rfl rfl ?_
  refine x_aload dJ7_copyOfRangeByte_39247_16 rfl (by omega) ?_
  refine x_iconst dJ7_copyOfRangeByte_39247_18 ?_
  refine x_aload_n dJ7_copyOfRangeByte_39247_19 rfl rfl (by omega) ?_
  refine x_alen (t := 2) (f := (N : Int)) dJ7_copyOfRangeByte_39247_20 rfl h' (by decide) rfl ?_
  refine x_iload_n dJ7_copyOfRangeByte_39247_21 rfl rfl ?_
  refine x_isub dJ7_copyOfRangeByte_39247_22 ?_
  refine x_iload_n dJ7_copyOfRangeByte_39247_23 rfl rfl ?_
  refine x_min fJ7_copyOfRangeByte_39247_24 (R32.in (by omega)) (R32.in (by omega)) (Nat.le_of_ble_eq_true rfl) ⟨Nat.le_of_ble_eq_true rfl, Nat.le_of_ble_eq_true rfl, show 0 + 0 + 1 ≤ 1 by omega, show 0 + 0 + n ≤ n by omega⟩ ?_
  refine Gx.topE (b := (n : Int)) (by omega) ?_
  refine x_copyB (o1 := o) (o2 := (gS G').length) (n1 := N) (n2 := n) fJ7_copyOfRangeByte_39247_27 ⟨Nat.le_of_ble_eq_true rfl, Nat.le_of_ble_eq_true rfl⟩ rfl rfl h' ax_sh (by omega) (by omega) (by omega) (fun i h1 h2 => by rw [am_nw_o (by omega)]; exact hb i h1 (by omega)) (Nat.le_of_ble_eq_true rfl) ?_
  refine x_aload dJ7_copyOfRangeByte_39247_30 rfl (by omega) ?_
  refine x_aret dJ7_copyOfRangeByte_39247_32 rfl (Or.inr ⟨_, rfl⟩) ⟨by omega, by omega⟩ (Xt.ax G' (22, n) q) ⟨q, rfl, rfl, fun j j0 j1 => ?_, fun a ha => ?_⟩
  · rw [am_cq_at, if_pos (by omega), am_nw_o (by omega), show j - 0 + 0 = j by omega]
  · rw [am_cq_o ha, am_nw_o ha]
end gxs16
section gxs17
variable {K : XKt} {G G' : AG} {M M2 : AMeth} {cs ss pc mc ms : Nat} {ls ls2 st rest as : List AV} {μ μ1 : Mu} {k n : Nat} {r : Option AV} {C : String}
theorem s_copyOfRange_lt {o n N : Nat} (h : (gS G)[o]? = some (22, N)) (hn : n < N) (hN : N ≤ 100000) (hb : ∀ i : Int, 0 ≤ i → i < N → -128 ≤ μ o i ∧ μ o i ≤ 127) (hw : wfm G μ) : Gx (xK G M_J7_copyOfRange_39247 1 n (crP G μ o n)) G M_J7_copyOfRange_39247 0 0 0 [(2, (o : Int)), (0, 0), (0, (n : Int))] [] μ := by
  have ho := (List.getElem?_eq_some_iff.mp h).1
  refine x_iload_n dJ7_copyOfRange_39247_0 rfl rfl ?_
  refine x_if_ne (tgt := 10) dJ7_copyOfRange_39247_1 rfl (R32.in (by decide)) (fun q => absurd rfl q) (fun _ => ?_)
  refine x_iload_n dJ7_copyOfRange_39247_4 rfl rfl ?_
  refine x_aload_n dJ7_copyOfRange_39247_5 rfl rfl (by omega) ?_
  refine x_alen (t := 2) (f := (N : Int)) dJ7_copyOfRange_39247_6 rfl h (by decide) rfl ?_
  refine x_icmp_eq (tgt := 17) dJ7_copyOfRange_39247_7 rfl (R32.in (by omega)) (R32.in (by omega)) (fun q => absurd q (by omega)) (fun _ => ?_)
  refine x_aload_n dJ7_copyOfRange_39247_10 rfl rfl (by omega) ?_
  refine x_iload_n dJ7_copyOfRange_39247_11 rfl rfl ?_
  refine x_iload_n dJ7_copyOfRange_39247_12 rfl rfl ?_
  refine x_callSX (as := [(2, (o : Int)), (0, 0), (0, (n : Int))]) (rest := []) (k := 2) (mc := 1) (ms := n) (P := crP G μ o n) fJ7_copyOfRange_39247_13 ⟨Nat.le_of_ble_eq_true rfl, Nat.le_of_ble_eq_true rfl⟩ ⟨show 0 + 1 ≤ 1 by omega, show 0 + n ≤ n by omega⟩ xK_A hw rfl rfl rfl rfl rfl (Nat.le_of_ble_eq_true rfl) ⟨fun _ => (by omega), nt_no (by decide), nt_no (by decide), trivial⟩ trivial (s_copyOfRangeByte h (by omega) hN hb hw) (fun G' r μ' hp hx => ?_)
  obtain ⟨q, rfl, rfl, hp⟩ := hp
  exact x_aret dJ7_copyOfRange_39247_16 rfl (Or.inr ⟨_, rfl⟩) ⟨by omega, by omega⟩ hx ⟨q, rfl, rfl, hp⟩
/-- a string made of a builder -/
def siP (G : AG) (μ : Mu) (o ρ : Nat) (n : Nat) : AG → Option AV → Mu → Prop := fun G' r μ' => ∃ q, G' = ax G (22, n) q ∧ r = none ∧ (μ' o 0 = ((gS G).length : Int) ∧ μ' o 1 = 0) ∧ (∀ j : Int, 0 ≤ j → j < n → μ' ((gS G).length : Int) j = μ ρ j) ∧ ∀ a : Int, a ≠ ((gS G).length : Int) → a ≠ o → μ' a = μ a
theorem s_init_sb {o b ρ N n : Nat} (ho : (gS G)[o]? = some (8, 4)) (hb : BDs G μ b ρ N) (hn : μ b 3 = (n : Int) ∧ n ≤ N) (hw : wfm G μ)
    (hcr : ∀ μ2 : Mu, (∀ a : Int, a ≠ o → μ2 a = μ a) → wfm G μ2 → Gx (xK G M_J7_copyOfRange_39247 1 n (crP G μ2 ρ n)) G M_J7_copyOfRange_39247 0 0 0 [(2, (ρ : Int)), (0, 0), (0, (n : Int))] [] μ2) :
    Gx (xK G M_J0_init_db425 1 n (siP G μ o ρ n)) G M_J0_init_db425 0 0 0 [(2, (o : Int)), (2, (b : Int)), (2, -1), (9, 0), (9, 0)] [] μ := by
  obtain ⟨⟨h1, h2⟩, ⟨h3, h4⟩, h5, h6⟩ := id hb
  have hol := (List.getElem?_eq_some_iff.mp ho).1
  have hbl := (List.getElem?_eq_some_iff.mp h1).1
  have hrl := (List.getElem?_eq_some_iff.mp h2).1
  have hor : (ρ : Int) ≠ o := by intro q; have q' : ρ = o := by omega
                                 rw [q', ho] at h2; cases h2
  refine x_aload_n dJ0_init_db425_0 rfl rfl (by omega) ?_
  refine x_obj dJ0_init_db425_1 (by omega) kw_ob0 kw_obi kw_obc ⟨Nat.le_of_ble_eq_true rfl, Nat.le_of_ble_eq_true rfl⟩ (Nat.le_of_ble_eq_true rfl) ?_
  refine x_aload_n dJ0_init_db425_4 rfl rfl (by omega) ?_
  refine x_callWX (as := []) (rest := []) (k := 0) (mc := 0) (ms := 0) fJ0_init_db425_5 ⟨Nat.le_of_ble_eq_true rfl, Nat.le_of_ble_eq_true rfl⟩ ⟨show 0 + 0 ≤ 1 by omega, show 0 + 0 ≤ n by omega⟩ xK_A hw rfl rfl h1 rfl rfl rfl rfl rfl (Nat.le_of_ble_eq_true rfl) ⟨fun _ => (by omega), fun _ => (by omega), fun _ => (by omega), nt_no (by decide), nt_no (by decide), trivial⟩ trivial (s_J5_getValue h1) (fun G' μ' r hp hx => ?_)
  obtain ⟨rfl, rfl, rfl⟩ := hp
  refine Gx.topE h3 ?_
  refine x_astore_n (ls' := [(2, (o : Int)), (2, (b : Int)), (2, -1), (2, (ρ : Int)), (9, 0)]) dJ0_init_db425_8 rfl (Nat.le_of_ble_eq_true rfl) rfl (by omega) rfl ?_
  refine x_aload_n dJ0_init_db425_9 rfl rfl (by omega) ?_
  refine x_callOX (as := []) (rest := []) (k := 0) (mc := 0) (ms := 0) fJ0_init_db425_10 ⟨Nat.le_of_ble_eq_true rfl, Nat.le_of_ble_eq_true rfl⟩ ⟨show 0 + 0 + 0 ≤ 1 by omega, show 0 + 0 + 0 ≤ n by omega⟩ xK_A hw rfl rfl h1 rfl rfl rfl rfl rfl (Nat.le_of_ble_eq_true rfl) ⟨fun _ => (by omega), fun _ => (by omega), fun _ => (by omega), fun _ => (by omega), nt_no (by decide), trivial⟩ trivial (s_J4_length h1 hw) (fun G' μ' r hp hx => ?_)
  obtain ⟨rfl, rfl, rfl⟩ := hp
  refine Gx.topE hn.1 ?_
  refine x_istore (ls' := [(2, (o : Int)), (2, (b : Int)), (2, -1), (2, (ρ : Int)), (0, (n : Int))]) dJ0_init_db425_13 (Nat.le_of_ble_eq_true rfl) rfl rfl ?_
  refine x_aload_n dJ0_init_db425_15 rfl rfl (by omega) ?_
  refine x_callWX (as := []) (rest := []) (k := 0) (mc := 0) (ms := 0) fJ0_init_db425_16 ⟨Nat.le_of_ble_eq_true rfl, Nat.le_of_ble_eq_true rfl⟩ ⟨show 0 + 0 + 0 + 0 ≤ 1 by omega, show 0 + 0 + 0 + 0 ≤ n by omega⟩ xK_A hw rfl rfl h1 rfl rfl rfl rfl rfl (Nat.le_of_ble_eq_true rfl) ⟨fun _ => (by omega), fun _ => (by omega), fun _ => (by omega), fun _ => (by omega), nt_no (by decide), trivial⟩ trivial (s_J5_isLatin1 h1 h4) (fun G' μ' r hp hx => ?_)
  obtain ⟨rfl, rfl, rfl⟩ := hp
  refine x_if_eq (tgt := 41) dJ0_init_db425_19 rfl (R32.in (by decide)) (fun h => absurd h (by decide)) (fun _ => ?_)
  refine x_aload_n dJ0_init_db425_22 rfl rfl (by omega) ?_
  refine x_iconst dJ0_init_db425_23 ?_
  refine x_putFB (f := 1) fJ0_init_db425_24 rfl rfl ho rfl rfl rfl (Or.inl rfl) ?_
  refine x_aload_n dJ0_init_db425_27 rfl rfl (by omega) ?_
  refine x_aload_n dJ0_init_db425_28 rfl rfl (by omega) ?_
  refine x_iconst dJ0_init_db425_29 ?_
  refine x_iload dJ0_init_db425_30 rfl ?_
  have hw2 : wfm G' (am_up μ' o 1 0) := wfm_up hw (by omega)
  refine x_callSX (as := [(2, (ρ : Int)), (0, 0), (0, (n : Int))]) (rest := [(2, (o : Int))]) (k := 0) (mc := 1) (ms := n) fJ0_init_db425_32 ⟨Nat.le_of_ble_eq_true rfl, Nat.le_of_ble_eq_true rfl⟩ ⟨show 0 + 0 + 0 + 0 + 1 ≤ 1 by omega, show 0 + 0 + 0 + 0 + n ≤ n by omega⟩ xK_A hw2 rfl rfl rfl rfl rfl (Nat.le_of_ble_eq_true rfl) ⟨fun _ => (by omega), fun _ => (by omega), fun _ => (by omega), fun _ => (by omega), nt_no (by decide), trivial⟩ ⟨fun _ => (by omega), trivial⟩ (hcr _ (fun a ha => am_up_o ha) hw2) (fun G2 r μ2 hp hx => ?_)
  obtain ⟨q, rfl, rfl, p1, p2⟩ := hp
  refine x_putFA (f := 0) (ty := .byte) fJ0_init_db425_35 rfl rfl (Xt.sh hx ho) rfl rfl rfl (by omega) ?_
  refine x_goto (tgt := 97) dJ0_init_db425_38 rfl ?_
  refine x_vretX dJ0_init_db425_97 rfl ⟨by omega, by omega⟩ hx ⟨q, rfl, rfl, ⟨am_up_at, ?_⟩, fun j j0 j1 => ?_, fun a a1 a2 => ?_⟩
  · rw [am_up_nk (by decide), p2 _ (by omega), am_up_at]
  · rw [am_up_o (by omega), p1 j j0 j1, am_up_o hor]
  · rw [am_up_o a2, p2 a a1, am_up_o a2]
end gxs17
section gxs18
variable {K : XKt} {G G' : AG} {M M2 : AMeth} {cs ss pc mc ms : Nat} {ls ls2 st rest as : List AV} {μ μ1 : Mu} {k n : Nat} {r : Option AV} {C : String}
theorem s_init_s {o b ρ N n : Nat} (ho : (gS G)[o]? = some (8, 4)) (hb : BDs G μ b ρ N) (hn : μ b 3 = (n : Int) ∧ n ≤ N) (hw : wfm G μ)
    (hcr : ∀ μ2 : Mu, (∀ a : Int, a ≠ o → μ2 a = μ a) → wfm G μ2 → Gx (xK G M_J7_copyOfRange_39247 1 n (crP G μ2 ρ n)) G M_J7_copyOfRange_39247 0 0 0 [(2, (ρ : Int)), (0, 0), (0, (n : Int))] [] μ2) :
    Gx (xK G M_J0_init_81219 1 n (siP G μ o ρ n)) G M_J0_init_81219 0 0 0 [(2, (o : Int)), (2, (b : Int))] [] μ := by
  have hol := (List.getElem?_eq_some_iff.mp ho).1
  have hbl := (List.getElem?_eq_some_iff.mp hb.1.1).1
  refine x_aload_n dJ0_init_81219_0 rfl rfl (by omega) ?_
  refine x_aload_n dJ0_init_81219_1 rfl rfl (by omega) ?_
  refine x_null dJ0_init_81219_2 ?_
  refine x_callIX (as := [(2, (b : Int)), (2, -1)]) (rest := []) (k := 2) (mc := 1) (ms := n) fJ0_init_81219_3 ⟨Nat.le_of_ble_eq_true rfl, Nat.le_of_ble_eq_true rfl⟩ ⟨show 0 + 1 ≤ 1 by omega, show 0 + n ≤ n by omega⟩ xK_A hw rfl rfl ho rfl rfl rfl rfl (Nat.le_of_ble_eq_true rfl) ⟨fun _ => (by omega), fun _ => (by omega), trivial⟩ trivial (s_init_sb ho hb hn hw hcr) (fun G' μ' r hp hx => ?_)
  obtain ⟨q, rfl, rfl, hp⟩ := hp
  exact x_vretX dJ0_init_81219_6 rfl ⟨by omega, by omega⟩ hx ⟨q, rfl, rfl, hp⟩
theorem fJ4_toString_0e30d_0n : am_Fn M_J4_toString_0e30d 0 8 := ⟨18, (RJ0, TJ0, 4), dJ4_toString_0e30d_0, rfl, kw_cl18, kw_ins8, kw_ini8, by decide +kernel⟩
/-- the string that a builder holds -/
def tsP (G : AG) (μ : Mu) (ρ n : Nat) : AG → Option AV → Mu → Prop := fun G' r μ' => ∃ q1 q2, G' = ax (ax G (8, 4) q1) (22, n) q2 ∧ r = some (2, ((gS G).length : Int)) ∧ (μ' ((gS G).length : Int) 0 = ((gS G).length : Int) + 1 ∧ μ' ((gS G).length : Int) 1 = 0) ∧ (∀ j : Int, 0 ≤ j → j < n → μ' (((gS G).length : Int) + 1) j = μ ρ j) ∧ ∀ a : Int, a < ((gS G).length : Int) → μ' a = μ a
theorem wfm_n0 {q : Nat} (hw : wfm G μ) : wfm (ax G (8, 4) q) (am_n0 μ (gS G).length 8) := by
  intro o ci n hs hci k hk
  rw [ax_len]
  have ho : o < (gS G).length ∨ o = (gS G).length := by
    have := (List.getElem?_eq_some_iff.mp hs).1
    rw [ax_len] at this
    omega
  rcases ho with ho | ho
  · have hs' : (gS G)[o]? = some (ci, n) := by
      have h9 : (gS (ax G (8, 4) q))[o]? = (gS G)[o]? := by show (gS G ++ [(8, 4)])[o]? = _; rw [List.getElem?_append_left ho]
      rw [← h9]; exact hs
    obtain ⟨h1, h2⟩ := hw o ci n hs' hci k hk
    refine ⟨fun h => ?_, fun h => ?_⟩
    · have := h1 h; show gR G o k < _; omega
    · rw [am_n0_o (by omega)]; have := h2 h; omega
  · subst ho
    rw [ax_sh] at hs
    cases hs
    refine ⟨fun h => ?_, fun h => ?_⟩
    · have h4 : ∀ k : Nat, k < 4 → am_ct 8 k ≠ 2 := by decide
      exact absurd h (h4 k hk)
    · rw [am_n0_at]
      split <;> omega
theorem s_toString {b ρ N n : Nat} (hb : BDs G μ b ρ N) (hn : μ b 3 = (n : Int) ∧ n ≤ N) (hw : wfm G μ)
    (hcr : ∀ (q : Nat) (μ2 : Mu), (∀ a : Int, a < ((gS G).length : Int) → μ2 a = μ a) → wfm (ax G (8, 4) q) μ2 → Gx (xK (ax G (8, 4) q) M_J7_copyOfRange_39247 1 n (crP (ax G (8, 4) q) μ2 ρ n)) (ax G (8, 4) q) M_J7_copyOfRange_39247 0 0 0 [(2, (ρ : Int)), (0, 0), (0, (n : Int))] [] μ2) :
    Gx (xK G M_J4_toString_0e30d 2 (4 + n) (tsP G μ ρ n)) G M_J4_toString_0e30d 0 0 0 [(2, (b : Int))] [] μ := by
  obtain ⟨⟨h1, h2⟩, ⟨h3, h4⟩, h5, h6⟩ := id hb
  have hbl := (List.getElem?_eq_some_iff.mp h1).1
  have hrl := (List.getElem?_eq_some_iff.mp h2).1
  refine x_newO fJ4_toString_0e30d_0n xK_A ⟨show 0 + 1 ≤ 2 by omega, show 0 + 4 ≤ 4 + n by omega⟩ hw ⟨fun _ => (by omega), trivial⟩ trivial (fun q => ?_)
  have hX := Xt.ax G (8, 4) q
  have hb' : BDs (ax G (8, 4) q) (am_n0 μ (gS G).length 8) b ρ N := ⟨⟨Xt.sh hX h1, Xt.sh hX h2⟩, ⟨by rw [am_n0_o (by omega)]; exact h3, by rw [am_n0_o (by omega)]; exact h4⟩, h5, fun i i0 i1 => by rw [am_n0_o (by omega)]; exact h6 i i0 i1⟩
  have hw' := wfm_n0 (q := q) hw
  refine x_dup dJ4_toString_0e30d_3 (by simp) ?_
  refine x_aload_n dJ4_toString_0e30d_4 rfl rfl (by omega) ?_
  refine x_callIX (o := (gS G).length) (ci := 8) (as := [(2, (b : Int))]) (rest := [(2, ((gS G).length : Int))]) (k := 0) (mc := 1) (ms := n) fJ4_toString_0e30d_5 ⟨Nat.le_of_ble_eq_true rfl, Nat.le_of_ble_eq_true rfl⟩ ⟨show 0 + 1 + 1 ≤ 2 by omega, show 0 + 4 + n ≤ 4 + n by omega⟩ xK_A hw' rfl rfl ax_sh rfl rfl rfl rfl (Nat.le_of_ble_eq_true rfl) ⟨fun _ => (by rw [ax_len]; omega), trivial⟩ ⟨fun _ => (by rw [ax_len]; omega), trivial⟩ (s_init_s ax_sh hb' ⟨by rw [am_n0_o (by omega)]; exact hn.1, hn.2⟩ hw' (fun μ2 e w => hcr q μ2 (fun a ha => by rw [e a (by omega), am_n0_o (by omega)]) w)) (fun G' μ' r hp hx => ?_)
  obtain ⟨q2, rfl, rfl, ⟨p1, p2⟩, p3, p4⟩ := hp
  rw [ax_len] at p1 p3 p4
  refine x_aret dJ4_toString_0e30d_8 rfl (Or.inl ⟨_, rfl⟩) ⟨by omega, show 0 + 4 + n ≤ 4 + n by omega⟩ (hX.tr hx) ⟨q, q2, rfl, rfl, ⟨by rw [p1]; omega, p2⟩, fun j j0 j1 => ?_, fun a ha => ?_⟩
  · have := p3 j j0 j1
    rw [show (((gS G).length + 1 : Nat) : Int) = ((gS G).length : Int) + 1 by omega] at this
    rw [this, am_n0_o (by omega)]
  · rw [p4 a (by omega) (by omega), am_n0_o (by omega)]
end gxs18
section gxs19
variable {K : XKt} {G G' : AG} {M M2 : AMeth} {cs ss pc mc ms : Nat} {ls ls2 st rest as : List AV} {μ μ1 : Mu} {k n : Nat} {r : Option AV} {C : String}
theorem fJ_isL_7g : am_Fg M_J_isL 7 8 1 := ⟨15, (RJ0, TJ0, 4), dJ_isL_7, rfl, Nat.le_of_ble_eq_true rfl, kj_1972⟩
theorem fJ_ca_8g : am_Fg M_J_ca 8 8 0 := ⟨9, (RJ0, TJ0, 4), dJ_ca_8, rfl, Nat.le_of_ble_eq_true rfl, kj_1971⟩
theorem fJ_ca_1g : g_Cw M_J_ca 1 "java/lang/String" M_J_isL 0 := ⟨492, dJ_ca_1, kj_529, kj_530, kj_531, ok_J_isL⟩
theorem s_isL {o ρ n : Nat} (h : STs G μ o ρ n) : Gx (xK G M_J_isL 0 0 (puP G μ (some (0, 1)))) G M_J_isL 0 0 0 [(2, (o : Int))] [] μ := by
  obtain ⟨⟨h1, h2⟩, ⟨h3, h4⟩, h5, h6⟩ := id h
  refine x_getsC dJ_isL_0 rfl ?_
  refine x_if_eq (tgt := 17) dJ_isL_3 rfl (R32.in (by decide)) (fun h => absurd h (by decide)) (fun _ => ?_)
  refine x_aload_n dJ_isL_6 rfl rfl (by omega) ?_
  refine x_getI (f := 1) fJ_isL_7g rfl h1 (by decide) rfl ?_
  refine x_if_ne (tgt := 17) dJ_isL_10 rfl (by rw [h4]; exact R32.in (by decide)) (fun q => absurd h4 q) (fun _ => ?_)
  refine x_iconst dJ_isL_13 ?_
  refine x_goto (tgt := 18) dJ_isL_14 rfl ?_
  exact x_zretX dJ_isL_18 rfl (Or.inr rfl) ⟨Nat.le_refl _, Nat.le_refl _⟩ Xt.rf ⟨rfl, rfl, rfl⟩
theorem s_pci {x m : Int} {v : AV} (h : 0 ≤ x ∧ x < m) (hm : m ≤ 100000) : Gx (xK G M_J_pci 0 0 (puP G μ (some (0, x)))) G M_J_pci 0 0 0 [(0, x), (0, m), v] [] μ := by
  refine x_iload_n dJ_pci_0 rfl rfl ?_
  refine x_if_lt (tgt := 9) dJ_pci_1 rfl (R32.in (by omega)) (fun q => absurd q (by omega)) (fun _ => ?_)
  refine x_iload_n dJ_pci_4 rfl rfl ?_
  refine x_iload_n dJ_pci_5 rfl rfl ?_
  refine x_icmp_lt (tgt := 16) dJ_pci_6 rfl (R32.in (by omega)) (R32.in (by omega)) (fun _ => ?_) (fun q => absurd q (by omega))
  refine x_iload_n dJ_pci_16 rfl rfl ?_
  exact x_iretX dJ_pci_17 rfl ⟨Nat.le_refl _, Nat.le_refl _⟩ Xt.rf ⟨rfl, rfl, rfl⟩
end gxs19
