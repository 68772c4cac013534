section gxs7
variable {K : XKt} {G G2 : AG} {M M2 : AMeth} {cs ss pc mc ms : Nat} {ls ls2 st rest as : List AV} {μ : Mu} {k n : Nat} {P : AG → Option AV → Mu → Prop} {C : String}
theorem shr_0 {a : Int} (h : R32 a) : am_ishr a 0 = a := by
  unfold am_ishr
  have e : (Int32.ofInt 0 &&& 31) = 0 := by decide
  rw [e]
  simp [h.eq]
theorem shl_0 {a : Int} (h : R32 a) : am_ishl a 0 = a := by
  unfold am_ishl
  have e : (Int32.ofInt 0 &&& 31) = 0 := by decide
  rw [e]
  simp [h.eq]
theorem x_shr0 {a b : Int} (hd : decode M.2.1 pc = .ok (.ishr, 1)) (ha : R32 a) (hb : b = 0) (kk : Gx K G M cs ss (pc + 1) ls ((0, a) :: st) μ) : Gx K G M cs ss pc ls ((0, b) :: (0, a) :: st) μ := by
  subst hb
  refine x_ishr hd ?_
  rw [shr_0 ha]
  exact kk
theorem x_shl0 {a b : Int} (hd : decode M.2.1 pc = .ok (.ishl, 1)) (ha : R32 a) (hb : b = 0) (kk : Gx K G M cs ss (pc + 1) ls ((0, a) :: st) μ) : Gx K G M cs ss pc ls ((0, b) :: (0, a) :: st) μ := by
  subst hb
  refine x_ishl hd ?_
  rw [shl_0 ha]
  exact kk
theorem x_obj {idx : Nat} {z : Int} (hd : decode M.2.1 pc = .ok (.invokespecial idx, 3)) (h0 : 0 ≤ z) (h1 : Cond.methodLink M.1.cls idx Lib.objectInit ∈ TW) (h2 : Cond.instanceMethod Lib.objectInit ∈ TW) (h3 : Cond.code Lib.objectInit ⟨#[0xb1]⟩ 1 none ∈ TW) (hR : 1 ≤ K.1.frames ∧ 30 ≤ K.1.locals) (hcat : am_cs st ≤ 8) (kk : Gx K G M cs ss (pc + 3) ls st μ) : Gx K G M cs ss pc ls ((2, z) :: st) μ := by
  intro p e s m args below meth c H locs lsA hI
  obtain ⟨hX, hK, hP, hD, hS, hE, hl⟩ := id hI
  have hts := hX.2.2.2.2.1
  rw [List.map_cons, am_ref_pos h0]
  have h9 : (List.map (fun v => v.category) (st.map (am_c G))).sum ≤ 8 := by rw [am_cs_eq]; exact hcat
  refine W.objInit hX.1 hX.2.1 hX.2.2.2.1 (hts _ h1) (hts _ h2) (hts _ h3) rfl (by rw [hX.2.2.1]; exact hl.1) rfl hd hR.1 (by show 2 * 0 + _ + 12 ≤ _; omega) ?_
  exact kk p e s m args below meth c H locs lsA hI
/-- nothing is changed -/
def puP (G : AG) (μ : Mu) (v : Option AV) : AG → Option AV → Mu → Prop := fun G' r μ' => G' = G ∧ r = v ∧ μ' = μ
theorem s_J5_length {b : Nat} (h : (gS G)[b]? = some (9, 4)) : Gx (xK G M_J5_length_8abf5 0 0 (puP G μ (some (0, μ b 3)))) G M_J5_length_8abf5 0 0 0 [(2, (b : Int))] [] μ := by
  refine x_aload_n dJ5_length_8abf5_0 rfl rfl (by omega) ?_
  refine x_getI (f := 3) fJ5_length_8abf5_1 rfl h (by decide) rfl ?_
  exact x_iretX dJ5_length_8abf5_4 rfl ⟨Nat.le_refl _, Nat.le_refl _⟩ Xt.rf ⟨rfl, rfl, rfl⟩
theorem s_J4_length {b : Nat} (h : (gS G)[b]? = some (9, 4)) (hw : wfm G μ) : Gx (xK G M_J4_length_8abf5 0 0 (puP G μ (some (0, μ b 3)))) G M_J4_length_8abf5 0 0 0 [(2, (b : Int))] [] μ := by
  have hb := (List.getElem?_eq_some_iff.mp h).1
  refine x_aload_n dJ4_length_8abf5_0 rfl rfl (by omega) ?_
  refine x_callUX (C := "java/lang/StringBuilder") (as := []) (rest := []) (k := 0) fJ4_length_8abf5_1 ⟨Nat.le_of_ble_eq_true rfl, Nat.le_of_ble_eq_true rfl⟩ ⟨Nat.le_refl _, Nat.le_refl _⟩ xK_A hw rfl rfl h rfl rfl rfl rfl rfl (Nat.le_of_ble_eq_true rfl) ⟨fun _ => (by omega), trivial⟩ trivial (s_J5_length h) (fun G' μ' r hp hx => ?_)
  obtain ⟨rfl, rfl, rfl⟩ := hp
  exact x_iretX dJ4_length_8abf5_4 rfl ⟨Nat.le_refl _, Nat.le_refl _⟩ Xt.rf ⟨rfl, rfl, rfl⟩
theorem s_J5_getValue {b : Nat} (h : (gS G)[b]? = some (9, 4)) : Gx (xK G M_J5_getValue_6d5f1 0 0 (puP G μ (some (2, μ b 0)))) G M_J5_getValue_6d5f1 0 0 0 [(2, (b : Int))] [] μ := by
  refine x_aload_n dJ5_getValue_6d5f1_0 rfl rfl (by omega) ?_
  refine x_getD (f := 0) fJ5_getValue_6d5f1_1 rfl h rfl rfl ?_
  exact x_aret dJ5_getValue_6d5f1_4 rfl (Or.inr ⟨_, rfl⟩) ⟨Nat.le_refl _, Nat.le_refl _⟩ Xt.rf ⟨rfl, rfl, rfl⟩
theorem s_J5_isLatin1 {b : Nat} (h : (gS G)[b]? = some (9, 4)) (h1 : μ b 1 = 0) : Gx (xK G M_J5_isLatin1_aae02 0 0 (puP G μ (some (0, 1)))) G M_J5_isLatin1_aae02 0 0 0 [(2, (b : Int))] [] μ := by
  refine x_getsW dJ5_isLatin1_aae02_0 kw_cs ?_
  refine x_if_eq (tgt := 17) dJ5_isLatin1_aae02_3 rfl (R32.in (by decide)) (fun h => absurd h (by decide)) (fun _ => ?_)
  refine x_aload_n dJ5_isLatin1_aae02_6 rfl rfl (by omega) ?_
  refine x_getI (f := 1) fJ5_isLatin1_aae02_7 rfl h (by decide) rfl ?_
  refine x_if_ne (tgt := 17) dJ5_isLatin1_aae02_10 rfl (by rw [h1]; exact R32.in (by decide)) (fun h => absurd h1 h) (fun _ => ?_)
  refine x_iconst dJ5_isLatin1_aae02_13 ?_
  refine x_goto (tgt := 18) dJ5_isLatin1_aae02_14 rfl ?_
  exact x_zretX dJ5_isLatin1_aae02_18 rfl (Or.inr rfl) ⟨Nat.le_refl _, Nat.le_refl _⟩ Xt.rf ⟨rfl, rfl, rfl⟩
theorem s_J8_newLength {a b c : Int} (ha : 0 ≤ a ∧ a ≤ 100000) (hb : 0 ≤ b ∧ b ≤ 100000) (hc : 1 ≤ c ∧ c ≤ 200002) : Gx (xK G M_J8_newLength_cabcc 0 0 (puP G μ (some (0, a + max b c)))) G M_J8_newLength_cabcc 0 0 0 [(0, a), (0, b), (0, c), (9, 0)] [] μ := by
  refine x_iload_n dJ8_newLength_cabcc_0 rfl rfl ?_
  refine x_iload_n dJ8_newLength_cabcc_1 rfl rfl ?_
  refine x_iload_n dJ8_newLength_cabcc_2 rfl rfl ?_
  refine x_max fJ8_newLength_cabcc_3 (R32.in (by omega)) (R32.in (by omega)) (Nat.le_of_ble_eq_true rfl) ⟨Nat.le_of_ble_eq_true rfl, Nat.le_of_ble_eq_true rfl, Nat.le_refl _, Nat.le_refl _⟩ ?_
  refine x_iadd dJ8_newLength_cabcc_6 ?_
  refine x_istore_n (ls' := [(0, a), (0, b), (0, c), (0, a + max b c)]) dJ8_newLength_cabcc_7 rfl (Nat.le_of_ble_eq_true rfl) rfl rfl ?_
  refine x_iconst dJ8_newLength_cabcc_8 ?_
  refine x_iload_n dJ8_newLength_cabcc_9 rfl rfl ?_
  refine x_icmp_ge (tgt := 21) dJ8_newLength_cabcc_10 rfl (R32.in (by decide)) (R32.in (by omega)) (fun h => absurd h (by omega)) (fun _ => ?_)
  refine x_iload_n dJ8_newLength_cabcc_13 rfl rfl ?_
  refine x_ldc (n := 2147483639) dJ8_newLength_cabcc_14 kw_soft rfl ?_
  refine x_icmp_gt (tgt := 21) dJ8_newLength_cabcc_16 rfl (R32.in (by omega)) (R32.in (by decide)) (fun h => absurd h (by omega)) (fun _ => ?_)
  refine x_iload_n dJ8_newLength_cabcc_19 rfl rfl ?_
  exact x_iretX dJ8_newLength_cabcc_20 rfl ⟨Nat.le_refl _, Nat.le_refl _⟩ Xt.rf ⟨rfl, rfl, rfl⟩
end gxs7
section gxs8
variable {K : XKt} {G G2 : AG} {M M2 : AMeth} {cs ss pc mc ms : Nat} {ls ls2 st rest as : List AV} {μ : Mu} {k n : Nat} {P : AG → Option AV → Mu → Prop} {C : String}
theorem wfm_ax {x : Nat × Nat} {q : Nat} {μ' : Mu} (hw : wfm G μ) (hx : 20 ≤ x.1) (hm : ∀ o : Int, o ≠ ((gS G).length : Int) → μ' o = μ o) : wfm (ax G x q) μ' := by
  intro o ci n hs hci k hk
  rw [ax_len]
  have ho : o < (gS G).length ∨ o = (gS G).length := by
    have := (List.getElem?_eq_some_iff.mp hs).1
    rw [ax_len] at this
    omega
  rcases ho with ho | ho
  · have hs' : (gS G)[o]? = some (ci, n) := by
      have h9 : (gS (ax G x q))[o]? = (gS G)[o]? := by show (gS G ++ [x])[o]? = _; rw [List.getElem?_append_left ho]
      rw [← h9]; exact hs
    obtain ⟨h1, h2⟩ := hw o ci n hs' hci k hk
    refine ⟨fun h => ?_, fun h => ?_⟩
    · have := h1 h; show gR G o k < _; omega
    · rw [hm o (by omega)]; have := h2 h; omega
  · subst ho
    rw [ax_sh] at hs
    cases hs
    omega
theorem wfm_up {o : Nat} {f v : Int} (hw : wfm G μ) (hv : v < ((gS G).length : Int)) : wfm G (am_up μ o f v) := by
  intro o2 ci n hs hci k hk
  obtain ⟨h1, h2⟩ := hw o2 ci n hs hci k hk
  refine ⟨h1, fun h => ?_⟩
  by_cases ho : (o2 : Int) = (o : Int)
  · by_cases hf : (k : Int) = f
    · rw [ho, hf, am_up_at]; exact hv
    · rw [ho, am_up_nk hf, ← ho]; exact h2 h
  · rw [am_up_o ho]; exact h2 h
/-- a builder's superclass's constructor: the row of bytes -/
def inP (G : AG) (μ : Mu) (b N : Nat) : AG → Option AV → Mu → Prop := fun G' r μ' => ∃ q, G' = ax G (22, N) q ∧ r = none ∧ μ' = am_up (am_up (am_nw μ (gS G).length) b 0 ((gS G).length : Int)) b 1 0
theorem s_J5_init {b N : Nat} (h : (gS G)[b]? = some (9, 4)) (hN : N ≤ 1000) (hw : wfm G μ) : Gx (xK G M_J5_init_d00df 1 N (inP G μ b N)) G M_J5_init_d00df 0 0 0 [(2, (b : Int)), (0, (N : Int))] [] μ := by
  have hb := (List.getElem?_eq_some_iff.mp h).1
  refine x_aload_n dJ5_init_d00df_0 rfl rfl (by omega) ?_
  refine x_obj dJ5_init_d00df_1 (by omega) kw_ob5 kw_obi kw_obc ⟨Nat.le_of_ble_eq_true rfl, Nat.le_of_ble_eq_true rfl⟩ (Nat.le_of_ble_eq_true rfl) ?_
  refine x_getsW dJ5_init_d00df_4 kw_cs ?_
  refine x_if_eq (tgt := 25) dJ5_init_d00df_7 rfl (R32.in (by decide)) (fun h => absurd h (by decide)) (fun _ => ?_)
  refine x_aload_n dJ5_init_d00df_10 rfl rfl (by omega) ?_
  refine x_iload_n dJ5_init_d00df_11 rfl rfl ?_
  refine x_newaB (N := N) xK_A ⟨show 0 + 1 ≤ 1 by omega, show 0 + N ≤ N by omega⟩ dJ5_init_d00df_12 kw_ab rfl (by omega) hw ⟨fun _ => (by omega), nt_no (by decide), trivial⟩ ⟨fun _ => (by omega), trivial⟩ (fun q => ?_)
  have h' : (gS (ax G (22, N) q))[b]? = some (9, 4) := Xt.sh (Xt.ax G (22, N) q) h
  refine x_putA (f := 0) (ty := .byte) fJ5_init_d00df_14 rfl h' rfl rfl rfl (by omega) ?_
  refine x_aload_n dJ5_init_d00df_17 rfl rfl (by omega) ?_
  refine x_iconst dJ5_init_d00df_18 ?_
  refine x_putB (f := 1) fJ5_init_d00df_19 rfl h' rfl rfl rfl (Or.inl rfl) ?_
  refine x_goto (tgt := 38) dJ5_init_d00df_22 rfl ?_
  exact x_vretX dJ5_init_d00df_38 rfl ⟨by omega, by omega⟩ (Xt.ax G (22, N) q) ⟨q, rfl, rfl, rfl⟩
theorem s_J4_init {b : Nat} (h : (gS G)[b]? = some (9, 4)) (hw : wfm G μ) : Gx (xK G M_J4_init_da8c8 1 16 (inP G μ b 16)) G M_J4_init_da8c8 0 0 0 [(2, (b : Int))] [] μ := by
  have hb := (List.getElem?_eq_some_iff.mp h).1
  refine x_aload_n dJ4_init_da8c8_0 rfl rfl (by omega) ?_
  refine x_bipush dJ4_init_da8c8_1 (by decide) ?_
  refine x_callIX (as := [(0, 16)]) (rest := []) (k := 0) (mc := 1) (ms := 16) fJ4_init_da8c8_3 ⟨Nat.le_of_ble_eq_true rfl, Nat.le_of_ble_eq_true rfl⟩ ⟨show 0 + 1 ≤ 1 by omega, show 0 + 16 ≤ 16 by omega⟩ xK_A hw rfl rfl h rfl rfl rfl rfl (Nat.le_of_ble_eq_true rfl) ⟨fun _ => (by omega), trivial⟩ trivial (s_J5_init (N := 16) h (by decide) hw) (fun G' μ' r hp hx => ?_)
  obtain ⟨q, rfl, rfl, rfl⟩ := hp
  exact x_vretX dJ4_init_da8c8_6 rfl ⟨by omega, by omega⟩ (Xt.ax G (22, 16) q) ⟨q, rfl, rfl, rfl⟩
/-- a copy of a row, made larger -/
def cyP (G : AG) (μ : Mu) (o n N : Nat) : AG → Option AV → Mu → Prop := fun G' r μ' => ∃ q, G' = ax G (22, N) q ∧ r = some (2, ((gS G).length : Int)) ∧ μ' = am_cq (am_nw μ (gS G).length) o (gS G).length 0 0 n
theorem s_J7_copyOf {o n N : Nat} (h : (gS G)[o]? = some (22, n)) (hn : n < N) (hN : N ≤ 100000) (hb : ∀ i : Int, 0 ≤ i → i < n → -128 ≤ μ o i ∧ μ o i ≤ 127) (hw : wfm G μ) : Gx (xK G M_J7_copyOf_9075b 1 N (cyP G μ o n N)) G M_J7_copyOf_9075b 0 0 0 [(2, (o : Int)), (0, (N : Int)), (9, 0)] [] μ := by
  have ho := (List.getElem?_eq_some_iff.mp h).1
  refine x_iload_n dJ7_copyOf_9075b_0 rfl rfl ?_
  refine x_aload_n dJ7_copyOf_9075b_1 rfl rfl (by omega) ?_
  refine x_alen (t := 2) (f := (n : Int)) dJ7_copyOf_9075b_2 rfl h (by decide) rfl ?_
  refine x_icmp_ne (tgt := 14) dJ7_copyOf_9075b_3 rfl (R32.in (by omega)) (R32.in (by omega)) (fun _ => ?_) (fun h => absurd h (by omega))
  refine x_iload_n dJ7_copyOf_9075b_14 rfl rfl ?_
  refine x_newaB (N := N) xK_A ⟨show 0 + 1 ≤ 1 by omega, show 0 + N ≤ N by omega⟩ dJ7_copyOf_9075b_15 kw_ab rfl (by omega) hw ⟨fun _ => (by omega), nt_no (by decide), nt_no (by decide), trivial⟩ trivial (fun q => ?_)
  have h' : (gS (ax G (22, N) q))[o]? = some (22, n) := Xt.sh (Xt.ax G (22, N) q) h
  refine x_astore_n (ls' := [(2, (o : Int)), (0, (N : Int)), (2, ((gS G).length : Int))]) dJ7_copyOf_9075b_17 rfl (Nat.le_of_ble_eq_true rfl) rfl (by omega) rfl ?_
  refine x_aload_n dJ7_copyOf_9075b_18 rfl rfl (by omega) ?_
  refine x_iconst dJ7_copyOf_9075b_19 ?_
  refine x_aload_n dJ7_copyOf_9075b_20 rfl rfl (by omega) ?_
  refine x_iconst dJ7_copyOf_9075b_21 ?_
  refine x_aload_n dJ7_copyOf_9075b_22 rfl rfl (by omega) ?_
  refine x_alen (t := 2) (f := (n : Int)) dJ7_copyOf_9075b_23 rfl h' (by decide) rfl ?_
  refine x_iload_n dJ7_copyOf_9075b_24 rfl rfl ?_
  refine x_min fJ7_copyOf_9075b_25 (R32.in (by omega)) (R32.in (by omega)) (Nat.le_of_ble_eq_true rfl) ⟨Nat.le_of_ble_eq_true rfl, Nat.le_of_ble_eq_true rfl, show 0 + 1 ≤ 1 by omega, show 0 + N ≤ N by omega⟩ ?_
  refine Gx.topE (b := (n : Int)) (by omega) ?_
  refine x_copyB (o1 := o) (o2 := (gS G).length) (n1 := n) (n2 := N) fJ7_copyOf_9075b_28 ⟨Nat.le_of_ble_eq_true rfl, Nat.le_of_ble_eq_true rfl⟩ rfl rfl h' ax_sh (by omega) (by omega) (by omega) (fun i h1 h2 => by rw [am_nw_o (by omega)]; exact hb i h1 (by omega)) (Nat.le_of_ble_eq_true rfl) ?_
  refine x_aload_n dJ7_copyOf_9075b_31 rfl rfl (by omega) ?_
  exact x_aret dJ7_copyOf_9075b_32 rfl (Or.inr ⟨_, rfl⟩) ⟨by omega, by omega⟩ (Xt.ax G (22, N) q) ⟨q, rfl, rfl, rfl⟩
end gxs8
