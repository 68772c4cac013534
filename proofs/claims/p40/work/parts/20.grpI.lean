theorem s_X0_leftOf_k (X : AX) (D : GDt) (s : Int) (l : Int) (k : Int) (μ : Mu) (hG : GLd D μ) (hs : inS s l) (ha : alw D s l) (hk : k = key D s l) : Wp (GG X) M_X0_leftOf 0 [(2, 6), (1, k), (9, 0)] [] μ (pP 0 (l) μ) := by
  subst hk
  exact (s_X0_leftOf X D _ μ hG ⟨by have := key_r hG.ok ha hs; omega, by have := key_r hG.ok ha hs; omega⟩).toP (key_l hG.ok ha hs)

theorem s_X0_rightOf_k (X : AX) (D : GDt) (s : Int) (l : Int) (k : Int) (μ : Mu) (hG : GLd D μ) (hs : inS s l) (ha : alw D s l) (hk : k = key D s l) : Wp (GG X) M_X0_rightOf 0 [(2, 6), (1, k), (9, 0)] [] μ (pP 0 (l + s) μ) := by
  subst hk
  exact (s_X0_rightOf X D _ μ hG ).toP (key_rr hG.ok ha hs)

theorem s_X0_uglinessOf_k (X : AX) (D : GDt) (s : Int) (l : Int) (k : Int) (μ : Mu) (hs : inS s l) (ha : alw D s l) (hk : k = key D s l) (hok : GOK D) : Wp (GG X) M_X0_uglinessOf 0 [(1, k), (9, 0)] [] μ (pP 0 (ugl D s l) μ) := by
  subst hk
  exact (s_X0_uglinessOf X _ μ ⟨by have := key_r hok ha hs; omega, by have := key_r hok ha hs; omega⟩).toP (key_ug hok ha hs)

set_option maxRecDepth 100000 in
set_option maxHeartbeats 4000000 in
theorem s_X0_allows (X : AX) (D : GDt) (l : Int) (r : Int) (μ : Mu) (hG : GLd D μ) (hlr : (-60 ≤ l ∧ l ≤ 60) ∧ (-60 ≤ r ∧ r ≤ 60) ∧ (-8 ≤ r - l ∧ r - l ≤ 8)) : Wp (GG X) M_X0_allows 0 [(2, 6), (0, l), (0, r)] [] μ (qI 0 fun z μ' => (Fr 6 6 14 14 μ' μ) ∧ ((z = 0 ∨ z = 1) ∧ (z = 1 ↔ alw D (r - l) l)) ∧ (GLd D μ') ∧ (TL D (r - l) μ') ∧ (∀ k : Int, k ≤ 13 ∨ k = 15 → μ' 6 k = μ 6 k)) := by
  have hok := hG.ok
  have hn := hok.n
  have hsp := hok.sp
  refine w_aload_n dX0_allows_0 rfl rfl (by first | decide | omega) ?_
  refine w_iload_n dX0_allows_1 rfl rfl ?_
  refine w_iload_n dX0_allows_2 rfl rfl ?_
  refine w_isub dX0_allows_3 ?_
  refine w_callVV (o := 6) (ci := 0) (as := [(0, r - l)]) (rest := []) (k := 4) fX0_allows_4 rfl rfl rfl rfl rfl rfl rfl rfl (Nat.le_of_ble_eq_true rfl) (s_X0_tilt X D (r - l) μ hG (by first | omega | assumption)) (fun μT hμT => ?_)
  obtain ⟨hFT, hD_T, hT_T, hf_T⟩ := hμT
  refine w_iload_n dX0_allows_7 rfl rfl ?_
  refine w_aload_n dX0_allows_8 rfl rfl (by first | decide | omega) ?_
  refine w_getIx (o := 6) (f := 16) (x := μT 6 16) fX0_allows_9 rfl rfl (Nat.le_of_ble_eq_true rfl) rfl rfl ?_
  have hr2 := hT_T.lh
  refine w_icmp_lt (tgt := 27) dX0_allows_12 rfl (R32.in (by omega)) (R32.in (by omega)) (fun c12 => ?_) (fun c12 => ?_)
  · skip
    refine w_iconst dX0_allows_27 ?_
    exact w_zretI dX0_allows_28 rfl (Or.inl rfl) ⟨hFT, (by have h3 := hT_T.al2 (l := l) ⟨by omega, by omega⟩; exact ⟨by omega, by rw [← h3]; omega⟩), hD_T, hT_T, (fun k h1 => (hf_T k (by omega)))⟩
  · skip
    refine w_iload_n dX0_allows_15 rfl rfl ?_
    refine w_aload_n dX0_allows_16 rfl rfl (by first | decide | omega) ?_
    refine w_getIx (o := 6) (f := 17) (x := μT 6 17) fX0_allows_17 rfl rfl (Nat.le_of_ble_eq_true rfl) rfl rfl ?_
    refine w_icmp_gt (tgt := 27) dX0_allows_20 rfl (R32.in (by omega)) (R32.in (by omega)) (fun c20 => ?_) (fun c20 => ?_)
    · skip
      refine w_iconst dX0_allows_27 ?_
      exact w_zretI dX0_allows_28 rfl (Or.inl rfl) ⟨hFT, (by have h3 := hT_T.al2 (l := l) ⟨by omega, by omega⟩; exact ⟨by omega, by rw [← h3]; omega⟩), hD_T, hT_T, (fun k h1 => (hf_T k (by omega)))⟩
    · skip
      refine w_iconst dX0_allows_23 ?_
      refine w_goto (tgt := 28) dX0_allows_24 rfl ?_
      exact w_zretI dX0_allows_28 rfl (Or.inr rfl) ⟨hFT, (by have h3 := hT_T.al2 (l := l) ⟨by omega, by omega⟩; exact ⟨by omega, by rw [← h3]; omega⟩), hD_T, hT_T, (fun k h1 => (hf_T k (by omega)))⟩

set_option maxRecDepth 100000 in
set_option maxHeartbeats 4000000 in
theorem s_X0_keyOfSetting (X : AX) (D : GDt) (l : Int) (r : Int) (μ : Mu) (hG : GLd D μ) (hlr : (-60 ≤ l ∧ l ≤ 60) ∧ (-60 ≤ r ∧ r ≤ 60) ∧ (-8 ≤ r - l ∧ r - l ≤ 8)) : Wp (GG X) M_X0_keyOfSetting 0 [(2, 6), (0, l), (0, r)] [] μ (qI 1 fun z μ' => (Fr 6 6 14 14 μ' μ) ∧ (z = key D (r - l) l) ∧ (GLd D μ') ∧ (TL D (r - l) μ') ∧ (∀ k : Int, k ≤ 13 ∨ k = 15 → μ' 6 k = μ 6 k)) := by
  have hok := hG.ok
  have hn := hok.n
  have hsp := hok.sp
  refine w_aload_n dX0_keyOfSetting_0 rfl rfl (by first | decide | omega) ?_
  refine w_iload_n dX0_keyOfSetting_1 rfl rfl ?_
  refine w_iload_n dX0_keyOfSetting_2 rfl rfl ?_
  refine w_isub dX0_keyOfSetting_3 ?_
  refine w_callVV (o := 6) (ci := 0) (as := [(0, r - l)]) (rest := []) (k := 4) fX0_keyOfSetting_4 rfl rfl rfl rfl rfl rfl rfl rfl (Nat.le_of_ble_eq_true rfl) (s_X0_tilt X D (r - l) μ hG (by first | omega | assumption)) (fun μT hμT => ?_)
  obtain ⟨hFT, hD_T, hT_T, hf_T⟩ := hμT
  refine w_aload_n dX0_keyOfSetting_7 rfl rfl (by first | decide | omega) ?_
  refine w_iload_n dX0_keyOfSetting_8 rfl rfl ?_
  refine w_iload_n dX0_keyOfSetting_9 rfl rfl ?_
  refine w_iload_n dX0_keyOfSetting_10 rfl rfl ?_
  refine w_isub dX0_keyOfSetting_11 ?_
  refine w_aload_n dX0_keyOfSetting_12 rfl rfl (by first | decide | omega) ?_
  refine w_iload_n dX0_keyOfSetting_13 rfl rfl ?_
  refine w_callVP (o := 6) (ci := 0) (as := [(0, l)]) (rest := [(0, r - l), (0, l), (2, 6)]) (k := 3) fX0_keyOfSetting_14 rfl rfl rfl rfl rfl rfl rfl rfl (Nat.le_of_ble_eq_true rfl) (s_X0_stemsAt X D (r - l) l μT hD_T hT_T (by first | omega | assumption)) ?_
  have hf2 := stm_f D (r - l) l (by assumption) (by omega) (by omega)
  refine w_aload_n dX0_keyOfSetting_17 rfl rfl (by first | decide | omega) ?_
  refine w_iload_n dX0_keyOfSetting_18 rfl rfl ?_
  refine w_iload_n dX0_keyOfSetting_19 rfl rfl ?_
  refine w_isub dX0_keyOfSetting_20 ?_
  refine w_callVP (o := 6) (ci := 0) (as := [(0, r - l)]) (rest := [(0, stm D (r - l) l), (0, r - l), (0, l), (2, 6)]) (k := 1) fX0_keyOfSetting_21 rfl rfl rfl rfl rfl rfl rfl rfl (Nat.le_of_ble_eq_true rfl) (s_X0_slopeOf X D (r - l) μT hD_T (by first | omega | assumption)) ?_
  have hf3 := slp_f D (r - l) (by omega)
  refine w_iadd dX0_keyOfSetting_24 ?_
  refine w_aload_n dX0_keyOfSetting_25 rfl rfl (by first | decide | omega) ?_
  refine w_iload_n dX0_keyOfSetting_26 rfl rfl ?_
  refine w_iload_n dX0_keyOfSetting_27 rfl rfl ?_
  refine w_iload_n dX0_keyOfSetting_28 rfl rfl ?_
  refine w_isub dX0_keyOfSetting_29 ?_
  refine w_callVP (o := 6) (ci := 0) (as := [(0, l), (0, r - l)]) (rest := [(0, (stm D (r - l) l) + (slp D (r - l))), (0, r - l), (0, l), (2, 6)]) (k := 0) fX0_keyOfSetting_30 rfl rfl rfl rfl rfl rfl rfl rfl (Nat.le_of_ble_eq_true rfl) (s_X0_staffAt X D (r - l) l μT hD_T (by first | omega | assumption) (by first | omega | assumption)) ?_
  have hf4 := stf_f D (r - l) l (by assumption)
  refine w_iadd dX0_keyOfSetting_33 ?_
  refine w_callVP (o := 6) (ci := 0) (as := [(0, l), (0, r - l), (0, ((stm D (r - l) l) + (slp D (r - l))) + (stf D (r - l) l))]) (rest := []) (k := 2) fX0_keyOfSetting_34 rfl rfl rfl rfl rfl rfl rfl rfl (Nat.le_of_ble_eq_true rfl) (s_X0_keyAt X D (r - l) l (((stm D (r - l) l) + (slp D (r - l))) + (stf D (r - l) l)) μT hD_T hT_T (by first | omega | assumption) (by first | omega | assumption)) ?_
  exact w_lretI dX0_keyOfSetting_37 rfl ⟨hFT, (by rfl), hD_T, hT_T, (fun k h1 => (hf_T k (by omega)))⟩

set_option maxRecDepth 100000 in
set_option maxHeartbeats 4000000 in
theorem s_X0_tellSetting (X : AX) (D : GDt) (l : Int) (r : Int) (w : Int) (μ : Mu) (hG : GLd D μ) (hlr : (-60 ≤ l ∧ l ≤ 60) ∧ (-60 ≤ r ∧ r ≤ 60) ∧ (-8 ≤ r - l ∧ r - l ≤ 8)) (hw : -2147483648 ≤ w ∧ w ≤ 2147483647) : Wp (GG X) M_X0_tellSetting 0 [(2, 6), (0, l), (0, r), (0, w), (9, 0)] [] μ (qI 0 fun z μ' => (Fr 6 6 14 14 μ' μ) ∧ (z = tls D (r - l) l w) ∧ (GLd D μ') ∧ (∀ k : Int, k ≤ 13 ∨ k = 15 → μ' 6 k = μ 6 k)) := by
  have hok := hG.ok
  have hn := hok.n
  have hsp := hok.sp
  refine w_iload_n dX0_tellSetting_0 rfl rfl ?_
  refine w_iload_n dX0_tellSetting_1 rfl rfl ?_
  refine w_isub dX0_tellSetting_2 ?_
  refine w_istore (ls' := [(2, 6), (0, l), (0, r), (0, w), (0, r - l)]) dX0_tellSetting_3 (Nat.le_of_ble_eq_true rfl) rfl rfl ?_
  refine w_aload_n dX0_tellSetting_5 rfl rfl (by first | decide | omega) ?_
  refine w_iload dX0_tellSetting_6 rfl ?_
  refine w_callVV (o := 6) (ci := 0) (as := [(0, r - l)]) (rest := []) (k := 4) fX0_tellSetting_8 rfl rfl rfl rfl rfl rfl rfl rfl (Nat.le_of_ble_eq_true rfl) (s_X0_tilt X D (r - l) μ hG (by first | omega | assumption)) (fun μT hμT => ?_)
  obtain ⟨hFT, hD_T, hT_T, hf_T⟩ := hμT
  refine w_iload_n dX0_tellSetting_11 rfl rfl ?_
  rcases (show (w < 3 ∨ 5 < w) ∨ w = 3 ∨ w = 4 ∨ w = 5 by omega) with q12 | q12 | q12 | q12
  · refine w_tableOut (tgt := 61) dX0_tellSetting_12 (R32.in (by omega)) q12 rfl ?_
    refine w_aload_n dX0_tellSetting_61 rfl rfl (by first | decide | omega) ?_
    refine w_iload_n dX0_tellSetting_62 rfl rfl ?_
    refine w_callVP (o := 6) (ci := 0) (as := [(0, l)]) (rest := []) (k := 3) fX0_tellSetting_63 rfl rfl rfl rfl rfl rfl rfl rfl (Nat.le_of_ble_eq_true rfl) (s_X0_stemsAt X D (r - l) l μT hD_T hT_T (by first | omega | assumption)) ?_
    have hf2 := stm_f D (r - l) l (by assumption) (by omega) (by omega)
    refine w_aload_n dX0_tellSetting_66 rfl rfl (by first | decide | omega) ?_
    refine w_iload dX0_tellSetting_67 rfl ?_
    refine w_callVP (o := 6) (ci := 0) (as := [(0, r - l)]) (rest := [(0, stm D (r - l) l)]) (k := 1) fX0_tellSetting_69 rfl rfl rfl rfl rfl rfl rfl rfl (Nat.le_of_ble_eq_true rfl) (s_X0_slopeOf X D (r - l) μT hD_T (by first | omega | assumption)) ?_
    have hf3 := slp_f D (r - l) (by omega)
    refine w_iadd dX0_tellSetting_72 ?_
    refine w_aload_n dX0_tellSetting_73 rfl rfl (by first | decide | omega) ?_
    refine w_iload_n dX0_tellSetting_74 rfl rfl ?_
    refine w_iload dX0_tellSetting_75 rfl ?_
    refine w_callVP (o := 6) (ci := 0) (as := [(0, l), (0, r - l)]) (rest := [(0, (stm D (r - l) l) + (slp D (r - l)))]) (k := 0) fX0_tellSetting_77 rfl rfl rfl rfl rfl rfl rfl rfl (Nat.le_of_ble_eq_true rfl) (s_X0_staffAt X D (r - l) l μT hD_T (by first | omega | assumption) (by first | omega | assumption)) ?_
    have hf4 := stf_f D (r - l) l (by assumption)
    refine w_iadd dX0_tellSetting_80 ?_
    exact w_iretI dX0_tellSetting_81 rfl ⟨hFT, (by unfold tls; simp [*, ugl]; try omega), hD_T, (fun k h1 => (hf_T k (by omega)))⟩
  · refine w_tableIn (off := 28) (tgt := 40) dX0_tellSetting_12 (R32.in (by omega)) (by omega) (by omega) (by rw [q12]; rfl) rfl ?_
    refine w_aload_n dX0_tellSetting_40 rfl rfl (by first | decide | omega) ?_
    refine w_iload_n dX0_tellSetting_41 rfl rfl ?_
    refine w_callVP (o := 6) (ci := 0) (as := [(0, l)]) (rest := []) (k := 3) fX0_tellSetting_42 rfl rfl rfl rfl rfl rfl rfl rfl (Nat.le_of_ble_eq_true rfl) (s_X0_stemsAt X D (r - l) l μT hD_T hT_T (by first | omega | assumption)) ?_
    have hf5 := stm_f D (r - l) l (by assumption) (by omega) (by omega)
    exact w_iretI dX0_tellSetting_45 rfl ⟨hFT, (by unfold tls; simp [*, ugl]; try omega), hD_T, (fun k h1 => (hf_T k (by omega)))⟩
  · refine w_tableIn (off := 34) (tgt := 46) dX0_tellSetting_12 (R32.in (by omega)) (by omega) (by omega) (by rw [q12]; rfl) rfl ?_
    refine w_aload_n dX0_tellSetting_46 rfl rfl (by first | decide | omega) ?_
    refine w_iload dX0_tellSetting_47 rfl ?_
    refine w_callVP (o := 6) (ci := 0) (as := [(0, r - l)]) (rest := []) (k := 1) fX0_tellSetting_49 rfl rfl rfl rfl rfl rfl rfl rfl (Nat.le_of_ble_eq_true rfl) (s_X0_slopeOf X D (r - l) μT hD_T (by first | omega | assumption)) ?_
    have hf6 := slp_f D (r - l) (by omega)
    exact w_iretI dX0_tellSetting_52 rfl ⟨hFT, (by unfold tls; simp [*, ugl]; try omega), hD_T, (fun k h1 => (hf_T k (by omega)))⟩
  · refine w_tableIn (off := 41) (tgt := 53) dX0_tellSetting_12 (R32.in (by omega)) (by omega) (by omega) (by rw [q12]; rfl) rfl ?_
    refine w_aload_n dX0_tellSetting_53 rfl rfl (by first | decide | omega) ?_
    refine w_iload_n dX0_tellSetting_54 rfl rfl ?_
    refine w_iload dX0_tellSetting_55 rfl ?_
    refine w_callVP (o := 6) (ci := 0) (as := [(0, l), (0, r - l)]) (rest := []) (k := 0) fX0_tellSetting_57 rfl rfl rfl rfl rfl rfl rfl rfl (Nat.le_of_ble_eq_true rfl) (s_X0_staffAt X D (r - l) l μT hD_T (by first | omega | assumption) (by first | omega | assumption)) ?_
    have hf7 := stf_f D (r - l) l (by assumption)
    exact w_iretI dX0_tellSetting_60 rfl ⟨hFT, (by unfold tls; simp [*, ugl]; try omega), hD_T, (fun k h1 => (hf_T k (by omega)))⟩

set_option maxRecDepth 100000 in
set_option maxHeartbeats 4000000 in
theorem s_X0_tell (X : AX) (D : GDt) (s : Int) (l : Int) (k : Int) (w : Int) (μ : Mu) (hG : GLd D μ) (hs : inS s l) (ha : alw D s l) (hk : k = key D s l) (hw : -2147483648 ≤ w ∧ w ≤ 2147483647) : Wp (GG X) M_X0_tell 0 [(2, 6), (1, k), (9, 0), (0, w)] [] μ (qI 0 fun z μ' => (Fr 6 6 14 14 μ' μ) ∧ (z = tlv D s l w) ∧ (GLd D μ') ∧ (∀ k : Int, k ≤ 13 ∨ k = 15 → μ' 6 k = μ 6 k)) := by
  have hok := hG.ok
  have hn := hok.n
  have hsp := hok.sp
  have hs1 : (-60 ≤ l ∧ l ≤ 60) ∧ (-60 ≤ l + s ∧ l + s ≤ 60) := hs.1
  have hs2 : -8 ≤ s ∧ s ≤ 8 := hs.2
  refine w_iload_n dX0_tell_0 rfl rfl ?_
  rcases (show (w < 0 ∨ 2 < w) ∨ w = 0 ∨ w = 1 ∨ w = 2 by omega) with q1 | q1 | q1 | q1
  · refine w_tableOut (tgt := 45) dX0_tell_1 (R32.in (by omega)) q1 rfl ?_
    refine w_aload_n dX0_tell_45 rfl rfl (by first | decide | omega) ?_
    refine w_aload_n dX0_tell_46 rfl rfl (by first | decide | omega) ?_
    refine w_lload_n dX0_tell_47 rfl rfl ?_
    refine w_callVP (o := 6) (ci := 0) (as := [(1, k)]) (rest := [(2, 6)]) (k := 0) fX0_tell_48 rfl rfl rfl rfl rfl rfl rfl rfl (Nat.le_of_ble_eq_true rfl) (s_X0_leftOf_k X D s l k μ hG (by first | assumption | omega) (by first | assumption | omega) (by first | omega | assumption)) ?_
    refine w_aload_n dX0_tell_51 rfl rfl (by first | decide | omega) ?_
    refine w_lload_n dX0_tell_52 rfl rfl ?_
    refine w_callVP (o := 6) (ci := 0) (as := [(1, k)]) (rest := [(0, l), (2, 6)]) (k := 0) fX0_tell_53 rfl rfl rfl rfl rfl rfl rfl rfl (Nat.le_of_ble_eq_true rfl) (s_X0_rightOf_k X D s l k μ hG (by first | assumption | omega) (by first | assumption | omega) (by first | omega | assumption)) ?_
    refine w_iload_n dX0_tell_56 rfl rfl ?_
    refine w_callVI (o := 6) (ci := 0) (as := [(0, l), (0, l + s), (0, w)]) (rest := []) (k := 1) fX0_tell_57 rfl rfl rfl rfl rfl rfl rfl rfl (Nat.le_of_ble_eq_true rfl) (s_X0_tellSetting X D l (l + s) w μ hG (by first | omega | assumption) (by first | omega | assumption)) (fun xS μS hμS => ?_)
    obtain ⟨hFS, hz_S, hD_S, hf_S⟩ := hμS
    exact w_iretI dX0_tell_60 rfl ⟨hFS, (by first | (rw [hz_S, show l + s - l = s by omega]; unfold tlv; rw [if_neg (by omega), if_neg (by omega), if_neg (by omega)]) | simp [tlv, *]), hD_S, (fun k h1 => (hf_S k (by omega)))⟩
  · refine w_tableIn (off := 27) (tgt := 28) dX0_tell_1 (R32.in (by omega)) (by omega) (by omega) (by rw [q1]; rfl) rfl ?_
    refine w_aload_n dX0_tell_28 rfl rfl (by first | decide | omega) ?_
    refine w_lload_n dX0_tell_29 rfl rfl ?_
    refine w_callVP (o := 6) (ci := 0) (as := [(1, k)]) (rest := []) (k := 0) fX0_tell_30 rfl rfl rfl rfl rfl rfl rfl rfl (Nat.le_of_ble_eq_true rfl) (s_X0_leftOf_k X D s l k μ hG (by first | assumption | omega) (by first | assumption | omega) (by first | omega | assumption)) ?_
    exact w_iretI dX0_tell_33 rfl ⟨Fr.rf, (by first | (rw [hz_S, show l + s - l = s by omega]; unfold tlv; rw [if_neg (by omega), if_neg (by omega), if_neg (by omega)]) | simp [tlv, *]), hG, (fun k h1 => rfl)⟩
  · refine w_tableIn (off := 33) (tgt := 34) dX0_tell_1 (R32.in (by omega)) (by omega) (by omega) (by rw [q1]; rfl) rfl ?_
    refine w_aload_n dX0_tell_34 rfl rfl (by first | decide | omega) ?_
    refine w_lload_n dX0_tell_35 rfl rfl ?_
    refine w_callVP (o := 6) (ci := 0) (as := [(1, k)]) (rest := []) (k := 0) fX0_tell_36 rfl rfl rfl rfl rfl rfl rfl rfl (Nat.le_of_ble_eq_true rfl) (s_X0_rightOf_k X D s l k μ hG (by first | assumption | omega) (by first | assumption | omega) (by first | omega | assumption)) ?_
    exact w_iretI dX0_tell_39 rfl ⟨Fr.rf, (by first | (rw [hz_S, show l + s - l = s by omega]; unfold tlv; rw [if_neg (by omega), if_neg (by omega), if_neg (by omega)]) | simp [tlv, *]), hG, (fun k h1 => rfl)⟩
  · refine w_tableIn (off := 39) (tgt := 40) dX0_tell_1 (R32.in (by omega)) (by omega) (by omega) (by rw [q1]; rfl) rfl ?_
    refine w_lload_n dX0_tell_40 rfl rfl ?_
    refine w_callSP (as := [(1, k)]) (rest := []) (k := 0) fX0_tell_41 rfl rfl rfl rfl rfl (Nat.le_of_ble_eq_true rfl) (s_X0_uglinessOf_k X D s l k μ (by first | assumption | omega) (by first | assumption | omega) (by first | omega | assumption) (by first | assumption | omega)) ?_
    exact w_iretI dX0_tell_44 rfl ⟨Fr.rf, (by first | (rw [hz_S, show l + s - l = s by omega]; unfold tlv; rw [if_neg (by omega), if_neg (by omega), if_neg (by omega)]) | simp [tlv, *]), hG, (fun k h1 => rfl)⟩

set_option maxRecDepth 100000 in
set_option maxHeartbeats 4000000 in
theorem s_X0_bestSloping (X : AX) (D : GDt) (s : Int) (c : Int) (μ : Mu) (hG : GLd D μ) (hs0 : -100 ≤ s ∧ s ≤ 100) (hc : isK D c) : Wp (GG X) M_X0_bestSloping 0 [(2, 6), (0, s), (1, c), (9, 0), (9, 0), (9, 0), (9, 0), (9, 0), (9, 0)] [] μ (qI 1 fun z μ' => (Fr 6 6 14 14 μ' μ) ∧ (isK D z) ∧ (z ≤ c) ∧ (∀ l, inS s l → alw D s l → z ≤ key D s l) ∧ (slK D s c z) ∧ (GLd D μ') ∧ (∀ k : Int, k ≤ 13 ∨ k = 15 → μ' 6 k = μ 6 k)) := by
  have hok := hG.ok
  have hn := hok.n
  have hsp := hok.sp
  have hcr := isK_r hok hc
  refine w_iload_n dX0_bestSloping_0 rfl rfl ?_
  refine w_bipush dX0_bestSloping_1 (by decide) ?_
  refine w_icmp_lt (tgt := 12) dX0_bestSloping_3 rfl (R32.in (by omega)) (R32.in (by decide)) (fun c3 => ?_) (fun c3 => ?_)
  · skip
    refine w_lload_n dX0_bestSloping_12 rfl rfl ?_
    exact w_lretI dX0_bestSloping_13 rfl ⟨Fr.rf, (by exact hc), (by omega), (by first | exact fun l h1 h2 => hb l h1 h2 (by have := (hT_T.al2 (l := l) h1.1).mpr h2; omega) | exact fun l h1 _ => absurd h1.2 (by omega)), (by first | exact slK_0 | exact hzb), hG, (fun k h1 => rfl)⟩
  · skip
    refine w_iload_n dX0_bestSloping_6 rfl rfl ?_
    refine w_bipush dX0_bestSloping_7 (by decide) ?_
    refine w_icmp_le (tgt := 14) dX0_bestSloping_9 rfl (R32.in (by omega)) (R32.in (by decide)) (fun c9 => ?_) (fun c9 => ?_)
    · skip
      refine w_aload_n dX0_bestSloping_14 rfl rfl (by first | decide | omega) ?_
      refine w_iload_n dX0_bestSloping_15 rfl rfl ?_
      refine w_callVV (o := 6) (ci := 0) (as := [(0, s)]) (rest := []) (k := 4) fX0_bestSloping_16 rfl rfl rfl rfl rfl rfl rfl rfl (Nat.le_of_ble_eq_true rfl) (s_X0_tilt X D s μ hG (by first | omega | assumption)) (fun μT hμT => ?_)
      obtain ⟨hFT, hD_T, hT_T, hf_T⟩ := hμT
      refine w_aload_n dX0_bestSloping_19 rfl rfl (by first | decide | omega) ?_
      refine w_iload_n dX0_bestSloping_20 rfl rfl ?_
      refine w_callVP (o := 6) (ci := 0) (as := [(0, s)]) (rest := []) (k := 1) fX0_bestSloping_21 rfl rfl rfl rfl rfl rfl rfl rfl (Nat.le_of_ble_eq_true rfl) (s_X0_slopeOf X D s μT hD_T (by first | omega | assumption)) ?_
      have hf2 := slp_f D s (by omega)
      refine w_istore (ls' := [(2, 6), (0, s), (1, c), (9, 0), (0, slp D s), (9, 0), (9, 0), (9, 0), (9, 0)]) dX0_bestSloping_24 (Nat.le_of_ble_eq_true rfl) rfl rfl ?_
      refine w_lload_n dX0_bestSloping_26 rfl rfl ?_
      refine w_lstore (ls' := [(2, 6), (0, s), (1, c), (9, 0), (0, slp D s), (1, c), (9, 0), (9, 0), (9, 0)]) dX0_bestSloping_27 (Nat.le_of_ble_eq_true rfl) rfl rfl ?_
      refine w_aload_n dX0_bestSloping_29 rfl rfl (by first | decide | omega) ?_
      refine w_getIx (o := 6) (f := 16) (x := μT 6 16) fX0_bestSloping_30 rfl rfl (Nat.le_of_ble_eq_true rfl) rfl rfl ?_
      have hr3 := hT_T.lh
      refine w_istore (ls' := [(2, 6), (0, s), (1, c), (9, 0), (0, slp D s), (1, c), (9, 0), (0, μT 6 16), (9, 0)]) dX0_bestSloping_33 (Nat.le_of_ble_eq_true rfl) rfl rfl ?_
      have hL35 : ∀ (n35 : Nat) (b : Int) (l : Int), (μT 6 17 + 1 - l).toNat = n35 → (μT 6 16 ≤ l ∧ l ≤ 300000) → (isK D b) → (b ≤ c) → (∀ l', inS s l' → alw D s l' → l' < l → b ≤ key D s l') → (slK D s c b) → Wp (GG X) M_X0_bestSloping 35 [(2, 6), (0, s), (1, c), (9, 0), (0, slp D s), (1, b), (9, 0), (0, l), (9, 0)] [] μT (qI 1 fun z μ' => (Fr 6 6 14 14 μ' μ) ∧ (isK D z) ∧ (z ≤ c) ∧ (∀ l, inS s l → alw D s l → z ≤ key D s l) ∧ (slK D s c z) ∧ (GLd D μ') ∧ (∀ k : Int, k ≤ 13 ∨ k = 15 → μ' 6 k = μ 6 k)) := by
        intro n35
        induction n35 using Nat.strongRecOn with
        | ind n35 ih35 =>
          intro b l hn35 hl0 hk hle hb hzb
          have hbr := isK_r hok hk
          have hlh := hT_T.lh
          refine w_iload dX0_bestSloping_35 rfl ?_
          refine w_aload_n dX0_bestSloping_37 rfl rfl (by first | decide | omega) ?_
          refine w_getIx (o := 6) (f := 17) (x := μT 6 17) fX0_bestSloping_38 rfl rfl (Nat.le_of_ble_eq_true rfl) rfl rfl ?_
          refine w_icmp_gt (tgt := 95) dX0_bestSloping_41 rfl (R32.in (by omega)) (R32.in (by omega)) (fun c41 => ?_) (fun c41 => ?_)
          · skip
            refine w_lload dX0_bestSloping_95 rfl ?_
            exact w_lretI dX0_bestSloping_97 rfl ⟨hFT, (by exact hk), (by omega), (by first | exact fun l h1 h2 => hb l h1 h2 (by have := (hT_T.al2 (l := l) h1.1).mpr h2; omega) | exact fun l h1 _ => absurd h1.2 (by omega)), (by first | exact slK_0 | exact hzb), hD_T, (fun k h1 => (hf_T k (by omega)))⟩
          · skip
            have hal := (hT_T.al (l := l)).mp ⟨by omega, by omega⟩
            have his : inS s l := ⟨hal.1, by omega⟩
            have hl6 : -60 ≤ l ∧ l ≤ 60 := hal.1.1
            refine w_iload dX0_bestSloping_44 rfl ?_
            refine w_aload_n dX0_bestSloping_46 rfl rfl (by first | decide | omega) ?_
            refine w_iload dX0_bestSloping_47 rfl ?_
            refine w_callVP (o := 6) (ci := 0) (as := [(0, l)]) (rest := [(0, slp D s)]) (k := 3) fX0_bestSloping_49 rfl rfl rfl rfl rfl rfl rfl rfl (Nat.le_of_ble_eq_true rfl) (s_X0_stemsAt X D s l μT hD_T hT_T (by first | omega | assumption)) ?_
            have hf4 := stm_f D s l (by assumption) (by omega) (by omega)
            refine w_iadd dX0_bestSloping_52 ?_
            refine w_istore (ls' := [(2, 6), (0, s), (1, c), (9, 0), (0, slp D s), (1, b), (9, 0), (0, l), (0, (slp D s) + (stm D s l))]) dX0_bestSloping_53 (Nat.le_of_ble_eq_true rfl) rfl rfl ?_
            refine w_iload dX0_bestSloping_55 rfl ?_
            refine w_lload dX0_bestSloping_57 rfl ?_
            refine w_callSP (as := [(1, b)]) (rest := [(0, (slp D s) + (stm D s l))]) (k := 0) fX0_bestSloping_59 rfl rfl rfl rfl rfl (Nat.le_of_ble_eq_true rfl) (s_X0_uglinessOf X b μT (by first | omega | assumption)) ?_
            refine w_icmp_gt (tgt := 89) dX0_bestSloping_62 rfl (R32.in (by omega)) (R32.in (by omega)) (fun c62 => ?_) (fun c62 => ?_)
            · skip
              refine w_iinc (ls' := [(2, 6), (0, s), (1, c), (9, 0), (0, slp D s), (1, b), (9, 0), (0, l + 1), (0, (slp D s) + (stm D s l))]) dX0_bestSloping_89 rfl (Nat.le_of_ble_eq_true rfl) rfl rfl ?_
              refine w_goto (tgt := 35) dX0_bestSloping_92 rfl ?_
              refine Wp.fgl (ls' := [(2, 6), (0, s), (1, c), (9, 0), (0, slp D s), (1, b), (9, 0), (0, l + 1), (9, 0)]) 8 rfl ?_
              exact ih35 _ (by omega) b (l + 1) rfl (by first | omega | assumption) (by first | exact hk | exact isK_min hk (Or.inr ⟨s, l, his, hal.2, rfl⟩)) (by first | omega | assumption) (by first | exact bsl_skip hok hal his (by omega) hb | exact bsl_take hb) (by first | exact hzb | exact slK_min hzb his hal.2)
            · skip
              refine w_lload dX0_bestSloping_65 rfl ?_
              refine w_aload_n dX0_bestSloping_67 rfl rfl (by first | decide | omega) ?_
              refine w_iload dX0_bestSloping_68 rfl ?_
              refine w_iload_n dX0_bestSloping_70 rfl rfl ?_
              refine w_iload dX0_bestSloping_71 rfl ?_
              refine w_aload_n dX0_bestSloping_73 rfl rfl (by first | decide | omega) ?_
              refine w_iload dX0_bestSloping_74 rfl ?_
              refine w_iload_n dX0_bestSloping_76 rfl rfl ?_
              refine w_callVP (o := 6) (ci := 0) (as := [(0, l), (0, s)]) (rest := [(0, (slp D s) + (stm D s l)), (0, s), (0, l), (2, 6), (1, b)]) (k := 0) fX0_bestSloping_77 rfl rfl rfl rfl rfl rfl rfl rfl (Nat.le_of_ble_eq_true rfl) (s_X0_staffAt X D s l μT hD_T (by first | omega | assumption) (by first | omega | assumption)) ?_
              have hf5 := stf_f D s l (by assumption)
              refine w_iadd dX0_bestSloping_80 ?_
              refine w_callVP (o := 6) (ci := 0) (as := [(0, l), (0, s), (0, ((slp D s) + (stm D s l)) + (stf D s l))]) (rest := [(1, b)]) (k := 2) fX0_bestSloping_81 rfl rfl rfl rfl rfl rfl rfl rfl (Nat.le_of_ble_eq_true rfl) (s_X0_keyAt X D s l (((slp D s) + (stm D s l)) + (stf D s l)) μT hD_T hT_T (by first | omega | assumption) (by first | omega | assumption)) ?_
              have hkr := key_r hok hal.2 his
              have hug := ugl_r hok hal.2 his.2
              refine Wp.topE (b := key D s l) (by rw [key_u]; unfold ugl; rw [Int.add_comm (slp D s)]) ?_
              refine w_minL fX0_bestSloping_84 (R64.in (by omega)) (R64.in (by omega)) (Nat.le_of_ble_eq_true rfl) ?_
              refine w_lstore (ls' := [(2, 6), (0, s), (1, c), (9, 0), (0, slp D s), (1, min b (key D s l)), (9, 0), (0, l), (0, (slp D s) + (stm D s l))]) dX0_bestSloping_87 (Nat.le_of_ble_eq_true rfl) rfl rfl ?_
              refine w_iinc (ls' := [(2, 6), (0, s), (1, c), (9, 0), (0, slp D s), (1, min b (key D s l)), (9, 0), (0, l + 1), (0, (slp D s) + (stm D s l))]) dX0_bestSloping_89 rfl (Nat.le_of_ble_eq_true rfl) rfl rfl ?_
              refine w_goto (tgt := 35) dX0_bestSloping_92 rfl ?_
              refine Wp.fgl (ls' := [(2, 6), (0, s), (1, c), (9, 0), (0, slp D s), (1, min b (key D s l)), (9, 0), (0, l + 1), (9, 0)]) 8 rfl ?_
              exact ih35 _ (by omega) (min b (key D s l)) (l + 1) rfl (by first | omega | assumption) (by first | exact hk | exact isK_min hk (Or.inr ⟨s, l, his, hal.2, rfl⟩)) (by first | omega | assumption) (by first | exact bsl_skip hok hal his (by omega) hb | exact bsl_take hb) (by first | exact hzb | exact slK_min hzb his hal.2)
      exact hL35 _ c (μT 6 16) rfl (by first | omega | assumption) (by first | assumption | omega) (by first | omega | assumption) (fun l h1 h2 h3 => by have := (hT_T.al2 (l := l) h1.1).mpr h2; omega) slK_0
    · skip
      refine w_lload_n dX0_bestSloping_12 rfl rfl ?_
      exact w_lretI dX0_bestSloping_13 rfl ⟨Fr.rf, (by exact hc), (by omega), (by first | exact fun l h1 h2 => hb l h1 h2 (by have := (hT_T.al2 (l := l) h1.1).mpr h2; omega) | exact fun l h1 _ => absurd h1.2 (by omega)), (by first | exact slK_0 | exact hzb), hG, (fun k h1 => rfl)⟩

set_option maxRecDepth 100000 in
set_option maxHeartbeats 4000000 in
theorem s_X0_findBest (X : AX) (D : GDt) (μ : Mu) (hG : GLd D μ) : Wp (GG X) M_X0_findBest 0 [(2, 6), (9, 0), (9, 0), (9, 0)] [] μ (qI 1 fun z μ' => (Fr 6 6 14 14 μ' μ) ∧ (z = mnK D) ∧ (GLd D μ') ∧ (∀ k : Int, k ≤ 13 ∨ k = 15 → μ' 6 k = μ 6 k)) := by
  have hok := hG.ok
  have hn := hok.n
  have hsp := hok.sp
  have hwr := want_r D
  refine w_ldc2 (n := 9223372036854775807) dX0_findBest_0 k_684 (by decide) ?_
  refine w_lstore_n (ls' := [(2, 6), (1, 9223372036854775807), (9, 0), (9, 0)]) dX0_findBest_3 rfl (Nat.le_of_ble_eq_true rfl) rfl rfl ?_
  refine w_iconst dX0_findBest_4 ?_
  refine w_istore_n (ls' := [(2, 6), (1, 9223372036854775807), (9, 0), (0, 0)]) dX0_findBest_5 rfl (Nat.le_of_ble_eq_true rfl) rfl rfl ?_
  have hL6 : ∀ (n6 : Nat) (f : Int) (a : Int) (μ1 : Mu), (14 - a).toNat = n6 → Fr 6 6 14 14 μ1 μ → (0 ≤ a ∧ a ≤ 14) → (isK D f) → (∀ s l, inS s l → alw D s l → ab (s - want D) < a → f ≤ key D s l) → (GLd D μ1) → (∀ k : Int, k ≤ 13 ∨ k = 15 → μ1 6 k = μ 6 k) → Wp (GG X) M_X0_findBest 6 [(2, 6), (1, f), (9, 0), (0, a)] [] μ1 (qI 1 fun z μ' => (Fr 6 6 14 14 μ' μ) ∧ (z = mnK D) ∧ (GLd D μ') ∧ (∀ k : Int, k ≤ 13 ∨ k = 15 → μ' 6 k = μ 6 k)) := by
    intro n6
    induction n6 using Nat.strongRecOn with
    | ind n6 ih6 =>
      intro f a μ1 hn6 hF6 ha0 hk hb hD1 hf1
      have hfr := isK_r hok hk
      refine w_iload_n dX0_findBest_6 rfl rfl ?_
      refine w_bipush dX0_findBest_7 (by decide) ?_
      refine w_icmp_gt (tgt := 57) dX0_findBest_9 rfl (R32.in (by omega)) (R32.in (by decide)) (fun c9 => ?_) (fun c9 => ?_)
      · skip
        refine w_lload_n dX0_findBest_57 rfl rfl ?_
        exact w_lretI dX0_findBest_58 rfl ⟨hF6, (by exact bstK_mn hok (fb_end hok hk hb (by omega))), hD1, (fun k h1 => (hf1 k (by omega)))⟩
      · skip
        refine w_bipush dX0_findBest_12 (by decide) ?_
        refine w_iload_n dX0_findBest_14 rfl rfl ?_
        refine w_imul dX0_findBest_15 ?_
        refine w_lload_n dX0_findBest_16 rfl rfl ?_
        refine w_callSP (as := [(1, f)]) (rest := [(0, 6 * a)]) (k := 0) fX0_findBest_17 rfl rfl rfl rfl rfl (Nat.le_of_ble_eq_true rfl) (s_X0_uglinessOf X f μ1 (by first | omega | assumption)) ?_
        refine w_icmp_gt (tgt := 57) dX0_findBest_20 rfl (R32.in (by omega)) (R32.in (by omega)) (fun c20 => ?_) (fun c20 => ?_)
        · skip
          refine w_lload_n dX0_findBest_57 rfl rfl ?_
          exact w_lretI dX0_findBest_58 rfl ⟨hF6, (by exact bstK_mn hok (fb_end hok hk hb (by omega))), hD1, (fun k h1 => (hf1 k (by omega)))⟩
        · skip
          refine w_aload_n dX0_findBest_23 rfl rfl (by first | decide | omega) ?_
          refine w_aload_n dX0_findBest_24 rfl rfl (by first | decide | omega) ?_
          refine w_getIx (o := 6) (f := 3) (x := want D) fX0_findBest_25 rfl rfl (Nat.le_of_ble_eq_true rfl) rfl hD1.wa ?_
          have hr1 := want_r D
          refine w_iload_n dX0_findBest_28 rfl rfl ?_
          refine w_isub dX0_findBest_29 ?_
          refine w_lload_n dX0_findBest_30 rfl rfl ?_
          refine w_callVI (o := 6) (ci := 0) (as := [(0, (want D) - a), (1, f)]) (rest := []) (k := 5) fX0_findBest_31 rfl rfl rfl rfl rfl rfl rfl rfl (Nat.le_of_ble_eq_true rfl) (s_X0_bestSloping X D ((want D) - a) f μ1 hD1 (by first | omega | assumption) (by first | assumption | omega)) (fun xA μA hμA => ?_)
          obtain ⟨hFA, hk_A, hle_A, hb_A, hz_A, hD_A, hf_A⟩ := hμA
          refine w_lstore_n (ls' := [(2, 6), (1, xA), (9, 0), (0, a)]) dX0_findBest_34 rfl (Nat.le_of_ble_eq_true rfl) rfl rfl ?_
          refine w_iload_n dX0_findBest_35 rfl rfl ?_
          refine w_if_le (tgt := 51) dX0_findBest_36 rfl (R32.in (by omega)) (fun c36 => ?_) (fun c36 => ?_)
          · skip
            refine w_iinc (ls' := [(2, 6), (1, xA), (9, 0), (0, a + 1)]) dX0_findBest_51 rfl (Nat.le_of_ble_eq_true rfl) rfl rfl ?_
            refine w_goto (tgt := 6) dX0_findBest_54 rfl ?_
            exact ih6 _ (by omega) xA (a + 1) μA rfl ((hFA.wd (by omega) (by omega)).tr hF6) (by first | omega | assumption) (by assumption) (by first | exact fb_2 hb hle_A hle_B hb_A hb_B | exact fb_1 (f := f) (by omega) hb_A) hD_A (fun k h1 => ((hf_A k (by omega)).trans (hf1 k (by omega))))
          · skip
            refine w_aload_n dX0_findBest_39 rfl rfl (by first | decide | omega) ?_
            refine w_aload_n dX0_findBest_40 rfl rfl (by first | decide | omega) ?_
            refine w_getIx (o := 6) (f := 3) (x := want D) fX0_findBest_41 rfl rfl (Nat.le_of_ble_eq_true rfl) rfl hD_A.wa ?_
            refine w_iload_n dX0_findBest_44 rfl rfl ?_
            refine w_iadd dX0_findBest_45 ?_
            refine w_lload_n dX0_findBest_46 rfl rfl ?_
            refine w_callVI (o := 6) (ci := 0) (as := [(0, (want D) + a), (1, xA)]) (rest := []) (k := 5) fX0_findBest_47 rfl rfl rfl rfl rfl rfl rfl rfl (Nat.le_of_ble_eq_true rfl) (s_X0_bestSloping X D ((want D) + a) xA μA hD_A (by first | omega | assumption) (by first | assumption | omega)) (fun xB μB hμB => ?_)
            obtain ⟨hFB, hk_B, hle_B, hb_B, hz_B, hD_B, hf_B⟩ := hμB
            refine w_lstore_n (ls' := [(2, 6), (1, xB), (9, 0), (0, a)]) dX0_findBest_50 rfl (Nat.le_of_ble_eq_true rfl) rfl rfl ?_
            refine w_iinc (ls' := [(2, 6), (1, xB), (9, 0), (0, a + 1)]) dX0_findBest_51 rfl (Nat.le_of_ble_eq_true rfl) rfl rfl ?_
            refine w_goto (tgt := 6) dX0_findBest_54 rfl ?_
            exact ih6 _ (by omega) xB (a + 1) μB rfl ((hFB.wd (by omega) (by omega)).tr ((hFA.wd (by omega) (by omega)).tr hF6)) (by first | omega | assumption) (by assumption) (by first | exact fb_2 hb hle_A hle_B hb_A hb_B | exact fb_1 (f := f) (by omega) hb_A) hD_B (fun k h1 => ((hf_B k (by omega)).trans ((hf_A k (by omega)).trans (hf1 k (by omega)))))
  exact hL6 _ 9223372036854775807 0 μ rfl Fr.rf (by first | omega | assumption) (Or.inl rfl) (fun s l _ _ h3 => by unfold ab at h3; omega) hG (fun k h1 => rfl)

