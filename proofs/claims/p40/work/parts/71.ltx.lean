/-! ===== The law's own texts: their fields, length, bytes; behind what a builder holds ===== -/
section ltx1
variable {K : XKt} {G G' : AG} {M M2 : AMeth} {cs ss pc mc ms : Nat} {ls ls2 st rest as : List AV} {μ μ1 : Mu} {k n : Nat} {r : Option AV} {P : AG → Option AV → Mu → Prop}
/-- how long a text is, its bytes -/
def lln (i : Nat) : Nat := lw_lens.getD i 0
def lby (i : Nat) (j : Int) : Int := ((lw_byts.getD i []).getD j.toNat 0).toInt
theorem lln_b : ∀ i : Nat, i < 9 → lln i ≤ 15 := by decide +kernel
theorem lby_n : ∀ i : Nat, i < 9 → ∀ j : Nat, j < lln i → (0 ≤ lby i (j : Int) ∧ lby i (j : Int) ≤ 127) ∧ fits .byte (.int ((lw_byts.getD i []).getD j 0)) = true := by decide +kernel
theorem lby_b {i : Nat} {j : Int} (hi : i < 9) (h : 0 ≤ j ∧ j < lln i) : 0 ≤ lby i j ∧ lby i j ≤ 127 := by
  obtain ⟨a, rfl⟩ : ∃ a : Nat, j = a := ⟨j.toNat, by omega⟩
  exact (lby_n i hi a (by omega)).1
theorem gx_lt {p : Program} {s : State} {m : MethodId} {args : Array Value} {meth : Method} {c : Code} {H : Heap} {locs : List Loc} {lsA : Array Slot} (hI : gx_In K G M p s m args meth c H locs lsA ls μ) : vk_S 9 lw_lens lw_byts (fun i => gK G (20 + i)) (fun i => gK G (30 + i)) (K.2.2 s) s s.heap := hI.2.2.2.2.2.1.1.2.2.2.2.2.2.2.1
theorem x_coderL {i : Nat} {z : Int} (hd : decode M.2.1 pc = .ok (.getfield 15, 3)) (hc : M.1.cls = "java/lang/String") (hi : i < 9) (hz : z = ((20 + i : Nat) : Int)) (kk : Gx K G M cs ss (pc + 3) ls ((0, 0) :: st) μ) : Gx K G M cs ss pc ls ((3, z) :: st) μ := by
  subst hz
  exact Gx.stk (fun _ _ _ _ _ _ _ _ _ _ _ _ hx hb hI k => vk_getf (v := .int 0) hx hb ((gx_lt hI).1 i hi).2.1 hI.2.2.2.2.1 (own := "java/lang/String") (by rw [← hc]; exact hI.1.2.2.2.1) (hI.1.2.2.2.2.1 _ kj_1972) (fun _ h => h) hd k) kk
theorem x_valueL {i : Nat} {z : Int} (hd : decode M.2.1 pc = .ok (.getfield 9, 3)) (hc : M.1.cls = "java/lang/String") (hi : i < 9) (hz : z = ((20 + i : Nat) : Int)) (kk : Gx K G M cs ss (pc + 3) ls ((3, ((30 + i : Nat) : Int)) :: st) μ) : Gx K G M cs ss pc ls ((3, z) :: st) μ := by
  subst hz
  exact Gx.stk (fun _ _ _ _ _ _ _ _ _ _ _ _ hx hb hI k => vk_getf (v := .ref (gK G (30 + i))) hx hb ((gx_lt hI).1 i hi).2.2.1 hI.2.2.2.2.1 (own := "java/lang/String") (by rw [← hc]; exact hI.1.2.2.2.1) (hI.1.2.2.2.2.1 _ kj_1971) (fun _ h => h) hd k) kk
theorem x_alenLt {i : Nat} {z : Int} (hd : decode M.2.1 pc = .ok (.arraylength, 1)) (hi : i < 9) (hz : z = ((30 + i : Nat) : Int)) (kk : Gx K G M cs ss (pc + 1) ls ((0, (lln i : Int)) :: st) μ) : Gx K G M cs ss pc ls ((3, z) :: st) μ := by
  subst hz
  exact Gx.stk (fun _ _ _ _ _ _ _ _ _ _ _ _ hx hb hI k => va_tlen hx hb ((gx_lt hI).1 i hi).2.2.2 hI.2.2.2.2.1 (v := Int32.ofInt ((lln i : Nat) : Int)) (by rw [Int32.ofInt_eq_ofNat]; rfl) hd k) kk
theorem x_ifnonnullK {z off : Int} {tgt : Nat} (hd : decode M.2.1 pc = .ok (.ifnonnull off, 3)) (ht : (pc : Int) + off = (tgt : Int)) (kk : Gx K G M cs ss tgt ls st μ) : Gx K G M cs ss pc ls ((3, z) :: st) μ :=
  Gx.stk (fun _ _ _ _ _ _ _ _ _ _ _ _ hx hb hI k => lv_ifnonnull hx hb hd ht k) kk
/-- a method of a text of the law -/
theorem x_callLX {i : Nat} {z : Int} (hf : g_Cw M pc "java/lang/String" M2 n) (hR : g_Room K.1 M2) (hroom : cs + mc ≤ K.1.cells ∧ ss + ms ≤ K.1.slots) (hKA : gx_A K) (hw : wfm G μ)
    (hst : st = as.reverse ++ (3, z) :: rest) (hi : i < 9) (hz : z = ((20 + i : Nat) : Int)) (hn : as.length = n) (hls : ls2 = am_args ((3, z) :: as) ++ List.replicate k (9, 0)) (hl2 : ls2.length = M2.2.2.1) (ht : am_tok as = true) (hcat : am_cs rest ≤ 8) (hol : lsok ((gS G).length : Int) ls) (hor : lsok ((gS G).length : Int) rest)
    (hcall : Gx (xK G M2 mc ms P) G M2 0 0 0 ls2 [] μ) (kk : ∀ (G' : AG) (μ' : Mu) (r : Option AV), P G' r μ' → Xt G G' → Gx K G' M (cs + mc) (ss + ms) (pc + 3) ls (r.toList ++ rest) μ') : Gx K G M cs ss pc ls st μ := by
  obtain ⟨idx, hd, hlink, hinst, hsel, hok⟩ := hf
  intro p e s m args below meth c H locs lsA hI
  have hX0 := hI.1
  have hl := hI.2.2.2.2.2.2
  have hts := hX0.2.2.2.2.1
  subst hst; subst hz
  have h3 : am_c G (3, ((20 + i : Nat) : Int)) = .ref (gK G (20 + i)) := rfl
  have hpre := gx_pre (as := (3, ((20 + i : Nat) : Int)) :: as) hKA Xt.rf hw hI
  rw [List.map_cons, h3] at hpre
  have hM := gx_met (as := (3, ((20 + i : Nat) : Int)) :: as) hok hls hl2 (by simp [am_tok, ht]) hcall H.size
  have hrec := vk_recv (gx_lt hI) hi hI.2.2.2.2.1
  refine gx_backX hKA hol hor hI (a := (Value.ref (gK G (20 + i)) :: as.map (am_c G)).toArray) (va_runV (C := "java/lang/String") (As := as.map (am_c G)) (b := gK G (20 + i)) (bytes := M2.2.1) (maxL := M2.2.2.1) (ret := M2.2.2.2.1) (own := M.1.cls) (index := idx) (Ts := TW) ⟨hX0.1, hX0.2.1, hX0.2.2.1, hX0.2.2.2.1, hts⟩ hM ⟨callB_of n hts (am_good (fun w h => am_ws_in hok w h)) rfl rfl rfl (hts _ hok.2.1) (hts _ hlink) hok.2.2.2 hR, hts _ hinst, hts _ hsel⟩ ⟨hpre.1, hrec, hpre.2⟩ rfl (by rw [List.length_map, hn]) hl.1 ?_ (lv_room (by rw [am_cs_eq]; exact hcat)) hd hroom) (fun G' r μ' H1 locs1 hp hx hI1 => ?_)
  · show (as.reverse ++ (3, ((20 + i : Nat) : Int)) :: rest).map (am_c G) = _
    rw [List.map_append, List.map_reverse, List.map_cons, h3]
  · have h9 := kk G' μ' r hp hx p e s m args below meth c H1 locs1 lsA hI1
    unfold gx_W at h9
    rw [hx.2.2.1] at h9
    exact h9
/-- the bytes of a text, written into a row -/
def am_cl (μ : Mu) (i : Nat) (d dp : Int) : Mu := fun a b => if a = d then (if dp ≤ b ∧ b < dp + (lln i : Int) then lby i (b - dp) else μ d b) else μ a b
theorem am_cl_o {i : Nat} {d dp a : Int} (h : a ≠ d) : am_cl μ i d dp a = μ a := by funext b; exact if_neg h
theorem am_cl_at {i : Nat} {d dp b : Int} : am_cl μ i d dp d b = if dp ≤ b ∧ b < dp + (lln i : Int) then lby i (b - dp) else μ d b := if_pos rfl
theorem am_row_cl {i o2 n : Nat} {dp : Int} (hs : (gS G)[o2]? = some (22, n)) (h2 : 0 ≤ dp) : (am_pic G μ).set o2 (gA G o2, .inl (gC G 2, n, .inl (va_cpy (fun j => (lw_byts.getD i []).getD j 0) (fun j => Int32.ofInt (μ o2 j)) 0 dp.toNat (lln i)))) = am_pic G (am_cl μ i o2 dp) := by
  have e : va_cpy (fun j : Nat => (lw_byts.getD i []).getD j 0) (fun j : Nat => Int32.ofInt (μ o2 j)) 0 dp.toNat (lln i) = fun j : Nat => Int32.ofInt (am_cl μ i o2 dp o2 j) := by
    funext j
    rw [am_cl_at]
    unfold va_cpy
    by_cases hc : dp.toNat ≤ j ∧ j < dp.toNat + lln i
    · rw [if_pos hc, if_pos (by omega)]
      show (lw_byts.getD i []).getD (0 + (j - dp.toNat)) 0 = Int32.ofInt (((lw_byts.getD i []).getD ((j : Int) - dp).toNat 0).toInt)
      rw [Int32.ofInt_toInt, show 0 + (j - dp.toNat) = ((j : Int) - dp).toNat by omega]
    · rw [if_neg hc, if_neg (by omega)]
  rw [e, ← am_el_row (G := G) (μ := am_cl μ i o2 dp) (t := 2) hs (by decide)]
  refine am_pic_set (fun o' h b => ?_)
  show am_cl μ i o2 dp o' b = _
  rw [am_cl_o (by omega)]
theorem x_copyL {i o2 n2 : Nat} {z1 z2 dp k : Int} (hf : g_Cc M pc) (hR : 1 ≤ K.1.frames ∧ 60 ≤ K.1.locals) (hi : i < 9) (ho1 : z1 = ((30 + i : Nat) : Int)) (ho2 : z2 = (o2 : Int)) (hs2 : (gS G)[o2]? = some (22, n2)) (hn : n2 < 2147483648) (hk : k = (lln i : Int)) (h1 : 0 ≤ dp) (h4 : dp + k ≤ n2) (hcat : am_cs st ≤ 8)
    (kk : Gx K G M cs ss (pc + 3) ls st (am_cl μ i z2 dp)) : Gx K G M cs ss pc ls ((0, k) :: (0, dp) :: (2, z2) :: (0, 0) :: (3, z1) :: st) μ := by
  subst ho1; subst ho2; subst hk
  obtain ⟨idx, hd, w1, w2, w3, w4⟩ := hf
  intro p e s m args below meth c H locs lsA hI
  obtain ⟨hX, hK, hP, hD, hS, hE, hl⟩ := id hI
  have hts := hX.2.2.2.2.1
  have hll := lln_b i hi
  have c1 := cq_clampN (z := 0) (by decide) (by decide)
  have c2 := cq_clampN (z := dp) h1 (by omega)
  have c3 := cq_clampN (z := (lln i : Int)) (by omega) (by omega)
  have e1 : (Int32.ofInt 0).toNatClampNeg = 0 := c1.2
  have e3 : (Int32.ofInt (lln i : Int)).toNatClampNeg = lln i := c3.2.trans (by omega)
  rw [List.map_cons, List.map_cons, List.map_cons, List.map_cons, List.map_cons, am_ref_pos (o := (o2 : Int)) (by omega)]
  refine vk_copyt (n := Int32.ofInt (lln i : Int)) (dp := Int32.ofInt dp) (sp := Int32.ofInt 0) hX.1 hX.2.1 (by rw [hX.2.2.1]; exact hl.1.symm) hX.2.2.2.1 (hts _ w1) (hts _ w2) (hts _ w3) (hts _ w4) hK hP hD hS ((gx_lt hI).1 i hi).2.2.2 o2 2 (am_pic_at hs2 (am_el_row (t := 2) hs2 (by decide))) rfl
    c1.1 c2.1 c3.1 (by rw [e1, e3, Nat.zero_add]; exact Nat.le_refl _) (by rw [c2.2, e3]; omega) (fun j hj => ?_) hR.1 (by rw [am_cs_eq]; exact Nat.le_trans (Nat.add_le_add_right hcat _) (Nat.le_trans (by decide +kernel) hR.2)) hd (fun H1 locs1 hP1 hD1 hS1 => ?_)
  · rw [e3] at hj
    rw [e1, Nat.zero_add]
    exact (lby_n i hi j hj).2
  · rw [e1, c2.2, e3, am_row_cl hs2 h1] at hP1 hD1
    exact kk p e s m args below meth c H1 locs1 lsA ⟨hX, hK, hP1, hD1, hS1, hE, hl⟩
end ltx1
section ltx2
variable {G G' : AG} {μ μ1 : Mu} {r : Option AV}
theorem s_coderL {i : Nat} (hi : i < 9) : Gx (xK G M_J_coder 0 0 (puP G μ (some (0, 0)))) G M_J_coder 0 0 0 [(3, ((20 + i : Nat) : Int))] [] μ := by
  refine x_getsC dJ_coder_0 rfl ?_
  refine x_if_eq (tgt := 13) dJ_coder_3 rfl (R32.in (by decide)) (fun h => absurd h (by decide)) (fun _ => ?_)
  refine x_aload_nS dJ_coder_6 rfl rfl ?_
  refine x_coderL dJ_coder_7 rfl hi rfl ?_
  refine x_goto (tgt := 14) dJ_coder_10 rfl ?_
  exact x_nretX dJ_coder_14 rfl nar_b0 ⟨Nat.le_refl _, Nat.le_refl _⟩ Xt.rf ⟨rfl, rfl, rfl⟩
theorem s_lenL {i : Nat} (hi : i < 9) (hw : wfm G μ) : Gx (xK G M_J_len 0 0 (puP G μ (some (0, (lln i : Int))))) G M_J_len 0 0 0 [(3, ((20 + i : Nat) : Int))] [] μ := by
  have hll := lln_b i hi
  refine x_aload_nS dJ_len_0 rfl rfl ?_
  refine x_valueL dJ_len_1 rfl hi rfl ?_
  refine x_alenLt dJ_len_4 hi rfl ?_
  refine x_aload_nS dJ_len_5 rfl rfl ?_
  refine x_callLX (as := []) (rest := [(0, (lln i : Int))]) (k := 0) (mc := 0) (ms := 0) fJ_len_6g ⟨Nat.le_of_ble_eq_true rfl, Nat.le_of_ble_eq_true rfl⟩ ⟨Nat.le_refl _, Nat.le_refl _⟩ xK_A hw rfl hi rfl rfl rfl rfl rfl (Nat.le_of_ble_eq_true rfl) ⟨nt_no (by decide), trivial⟩ ⟨nt_no (by decide), trivial⟩ (s_coderL hi) (fun G' μ' r hp hx => ?_)
  obtain ⟨rfl, rfl, rfl⟩ := hp
  refine x_shr0 dJ_len_9 (R32.in (by omega)) rfl ?_
  exact x_iretX dJ_len_10 rfl ⟨Nat.le_refl _, Nat.le_refl _⟩ Xt.rf ⟨rfl, rfl, rfl⟩
theorem s_getBytesL {i d D : Nat} {c : Int} (hi : i < 9) (hd : (gS G)[d]? = some (22, D)) (hD : D ≤ 100000) (hc : 0 ≤ c ∧ c + lln i ≤ D) (hw : wfm G μ) : Gx (xK G M_J0_getBytes_840e7 0 0 (roP G (am_cl μ i d c))) G M_J0_getBytes_840e7 0 0 0 [(3, ((20 + i : Nat) : Int)), (2, (d : Int)), (0, c), (0, 0)] [] μ := by
  have hd' := (List.getElem?_eq_some_iff.mp hd).1
  refine x_aload_nS dJ0_getBytes_840e7_0 rfl rfl ?_
  refine x_callLX (as := []) (rest := []) (k := 0) (mc := 0) (ms := 0) fJ0_getBytes_840e7_1 ⟨Nat.le_of_ble_eq_true rfl, Nat.le_of_ble_eq_true rfl⟩ ⟨Nat.le_refl _, Nat.le_refl _⟩ xK_A hw rfl hi rfl rfl rfl rfl rfl (Nat.le_of_ble_eq_true rfl) ⟨nt_no (by decide), fun _ => (by omega), nt_no (by decide), nt_no (by decide), trivial⟩ trivial (s_coderL hi) (fun G' μ' r hp hx => ?_)
  obtain ⟨rfl, rfl, rfl⟩ := hp
  refine x_iload_n dJ0_getBytes_840e7_4 rfl rfl ?_
  refine x_icmp_ne (tgt := 28) dJ0_getBytes_840e7_5 rfl (R32.in (by decide)) (R32.in (by decide)) (fun h => absurd rfl h) (fun _ => ?_)
  refine x_aload_nS dJ0_getBytes_840e7_8 rfl rfl ?_
  refine x_valueL dJ0_getBytes_840e7_9 rfl hi rfl ?_
  refine x_iconst dJ0_getBytes_840e7_12 ?_
  refine x_aload_n dJ0_getBytes_840e7_13 rfl rfl (by omega) ?_
  refine x_iload_n dJ0_getBytes_840e7_14 rfl rfl ?_
  refine x_iload_n dJ0_getBytes_840e7_15 rfl rfl ?_
  refine x_shl0 dJ0_getBytes_840e7_16 (R32.in (by omega)) rfl ?_
  refine x_aload_nS dJ0_getBytes_840e7_17 rfl rfl ?_
  refine x_valueL dJ0_getBytes_840e7_18 rfl hi rfl ?_
  refine x_alenLt dJ0_getBytes_840e7_21 hi rfl ?_
  refine x_copyL (i := i) (o2 := d) (n2 := D) fJ0_getBytes_840e7_22 ⟨Nat.le_of_ble_eq_true rfl, Nat.le_of_ble_eq_true rfl⟩ hi rfl rfl hd (by omega) rfl (by omega) (by omega) (Nat.le_of_ble_eq_true rfl) ?_
  refine x_goto (tgt := 43) dJ0_getBytes_840e7_25 rfl ?_
  exact x_vretX dJ0_getBytes_840e7_43 rfl ⟨Nat.le_refl _, Nat.le_refl _⟩ Xt.rf ⟨rfl, rfl, rfl⟩
theorem s_inflateL {b ρ N i : Nat} (hb : BDs G μ b ρ N) (hi : i < 9) (hw : wfm G μ) : Gx (xK G M_J5_inflateIfNeededFor_a7421 0 0 (roP G μ)) G M_J5_inflateIfNeededFor_a7421 0 0 0 [(2, (b : Int)), (3, ((20 + i : Nat) : Int))] [] μ := by
  obtain ⟨⟨h1, h2⟩, ⟨h3, h4⟩, h5, h6⟩ := id hb
  have hbl := (List.getElem?_eq_some_iff.mp h1).1
  refine x_getsW dJ5_inflateIfNeededFor_a7421_0 kw_cs ?_
  refine x_if_eq (tgt := 21) dJ5_inflateIfNeededFor_a7421_3 rfl (R32.in (by decide)) (fun h => absurd h (by decide)) (fun _ => ?_)
  refine x_aload_n dJ5_inflateIfNeededFor_a7421_6 rfl rfl (by omega) ?_
  refine x_getI (f := 1) fJ5_inflateIfNeededFor_a7421_7 rfl h1 (by decide) rfl ?_
  refine x_aload_nS dJ5_inflateIfNeededFor_a7421_10 rfl rfl ?_
  refine x_callLX (as := []) (rest := [(0, μ b 1)]) (k := 0) (mc := 0) (ms := 0) fJ5_inflateIfNeededFor_a7421_11 ⟨Nat.le_of_ble_eq_true rfl, Nat.le_of_ble_eq_true rfl⟩ ⟨Nat.le_refl _, Nat.le_refl _⟩ xK_A hw rfl hi rfl rfl rfl rfl rfl (Nat.le_of_ble_eq_true rfl) ⟨fun _ => (by omega), nt_no (by decide), trivial⟩ ⟨nt_no (by decide), trivial⟩ (s_coderL hi) (fun G' μ' r hp hx => ?_)
  obtain ⟨rfl, rfl, rfl⟩ := hp
  refine x_icmp_eq (tgt := 21) dJ5_inflateIfNeededFor_a7421_14 rfl (by rw [h4]; exact R32.in (by decide)) (R32.in (by decide)) (fun _ => ?_) (fun q => absurd h4 q)
  exact x_vretX dJ5_inflateIfNeededFor_a7421_21 rfl ⟨Nat.le_refl _, Nat.le_refl _⟩ Xt.rf ⟨rfl, rfl, rfl⟩
theorem s_putStringAtL {b ρ N i : Nat} {c : Int} (hb : BDs G μ b ρ N) (hi : i < 9) (hc : 0 ≤ c ∧ c + lln i ≤ N) (hw : wfm G μ) : Gx (xK G M_J5_putStringAt_47b60 0 0 (roP G (am_cl μ i ρ c))) G M_J5_putStringAt_47b60 0 0 0 [(2, (b : Int)), (0, c), (3, ((20 + i : Nat) : Int))] [] μ := by
  obtain ⟨⟨h1, h2⟩, ⟨h3, h4⟩, h5, h6⟩ := id hb
  have hbl := (List.getElem?_eq_some_iff.mp h1).1
  have hrl := (List.getElem?_eq_some_iff.mp h2).1
  refine x_aload_n dJ5_putStringAt_47b60_0 rfl rfl (by omega) ?_
  refine x_aload_nS dJ5_putStringAt_47b60_1 rfl rfl ?_
  refine x_callWX (as := [(3, ((20 + i : Nat) : Int))]) (rest := []) (k := 0) (mc := 0) (ms := 0) fJ5_putStringAt_47b60_2 ⟨Nat.le_of_ble_eq_true rfl, Nat.le_of_ble_eq_true rfl⟩ ⟨Nat.le_refl _, Nat.le_refl _⟩ xK_A hw rfl rfl h1 rfl rfl rfl rfl rfl (Nat.le_of_ble_eq_true rfl) ⟨fun _ => (by omega), nt_no (by decide), nt_no (by decide), trivial⟩ trivial (s_inflateL hb hi hw) (fun G' μ' r hp hx => ?_)
  obtain ⟨rfl, rfl, rfl⟩ := hp
  refine x_aload_nS dJ5_putStringAt_47b60_5 rfl rfl ?_
  refine x_aload_n dJ5_putStringAt_47b60_6 rfl rfl (by omega) ?_
  refine x_getD (f := 0) fJ5_putStringAt_47b60_7 rfl h1 rfl rfl ?_
  refine Gx.topE h3 ?_
  refine x_iload_n dJ5_putStringAt_47b60_10 rfl rfl ?_
  refine x_aload_n dJ5_putStringAt_47b60_11 rfl rfl (by omega) ?_
  refine x_getI (f := 1) fJ5_putStringAt_47b60_12 rfl h1 (by decide) rfl ?_
  refine Gx.topE h4 ?_
  refine x_callLX (as := [(2, (ρ : Int)), (0, c), (0, 0)]) (rest := []) (k := 0) (mc := 0) (ms := 0) fJ5_putStringAt_47b60_15 ⟨Nat.le_of_ble_eq_true rfl, Nat.le_of_ble_eq_true rfl⟩ ⟨Nat.le_refl _, Nat.le_refl _⟩ xK_A hw rfl hi rfl rfl rfl rfl rfl (Nat.le_of_ble_eq_true rfl) ⟨fun _ => (by omega), nt_no (by decide), nt_no (by decide), trivial⟩ trivial (s_getBytesL hi h2 (by omega) hc hw) (fun G' μ' r hp hx => ?_)
  obtain ⟨rfl, rfl, rfl⟩ := hp
  exact x_vretX dJ5_putStringAt_47b60_18 rfl ⟨Nat.le_refl _, Nat.le_refl _⟩ Xt.rf ⟨rfl, rfl, rfl⟩
theorem s_J5_append_L {b ρ N i : Nat} {n : Int} (hb : BDs G μ b ρ N) (hi : i < 9) (hn : μ b 3 = n ∧ 0 ≤ n ∧ n ≤ N) (hm : n + lln i ≤ 40000 ∧ 2 * (N : Int) + 2 ≤ 40000) (hw : wfm G μ) :
    Gx (xK G M_J5_append_cf1ce 1 (enN N (n + lln i)) (apP G μ b ρ N n (lln i) (lby i))) G M_J5_append_cf1ce 0 0 0 [(2, (b : Int)), (3, ((20 + i : Nat) : Int)), (9, 0)] [] μ := by
  obtain ⟨⟨h1, h2⟩, ⟨h3, h4⟩, h5, h6⟩ := id hb
  have hbl := (List.getElem?_eq_some_iff.mp h1).1
  have hrl := (List.getElem?_eq_some_iff.mp h2).1
  refine x_aload_nS dJ5_append_cf1ce_0 rfl rfl ?_
  refine x_ifnonnullK (tgt := 9) dJ5_append_cf1ce_1 rfl ?_
  refine x_aload_nS dJ5_append_cf1ce_9 rfl rfl ?_
  refine x_callLX (as := []) (rest := []) (k := 0) (mc := 0) (ms := 0) fJ5_append_cf1ce_10 ⟨Nat.le_of_ble_eq_true rfl, Nat.le_of_ble_eq_true rfl⟩ ⟨show 0 + 0 ≤ 1 by omega, show 0 + 0 ≤ enN N (n + lln i) by omega⟩ xK_A hw rfl hi rfl rfl rfl rfl rfl (Nat.le_of_ble_eq_true rfl) ⟨fun _ => (by omega), nt_no (by decide), nt_no (by decide), trivial⟩ trivial (s_lenL hi hw) (fun G' μ' r hp hx => ?_)
  obtain ⟨rfl, rfl, rfl⟩ := hp
  refine x_istore_n (ls' := [(2, (b : Int)), (3, ((20 + i : Nat) : Int)), (0, (lln i : Int))]) dJ5_append_cf1ce_13 rfl (Nat.le_of_ble_eq_true rfl) rfl rfl ?_
  refine x_aload_n dJ5_append_cf1ce_14 rfl rfl (by omega) ?_
  refine x_aload_n dJ5_append_cf1ce_15 rfl rfl (by omega) ?_
  refine x_getI (f := 3) fJ5_append_cf1ce_16 rfl h1 (by decide) rfl ?_
  refine Gx.topE hn.1 ?_
  refine x_iload_n dJ5_append_cf1ce_19 rfl rfl ?_
  refine x_iadd dJ5_append_cf1ce_20 ?_
  refine x_callWX (as := [(0, n + lln i)]) (rest := []) (k := 1) (mc := 1) (ms := enN N (n + lln i)) (P := enP G' μ' b ρ N (n + lln i)) fJ5_append_cf1ce_21 ⟨Nat.le_of_ble_eq_true rfl, Nat.le_of_ble_eq_true rfl⟩ ⟨show 0 + 0 + 1 ≤ 1 by omega, show 0 + 0 + enN N (n + lln i) ≤ enN N (n + lln i) by omega⟩ xK_A hw rfl rfl h1 rfl rfl rfl rfl rfl (Nat.le_of_ble_eq_true rfl) ⟨fun _ => (by omega), nt_no (by decide), nt_no (by decide), trivial⟩ trivial (s_J5_ensure hb (by omega) hw) (fun G2 μ1 r hp hx2 => ?_)
  obtain ⟨rfl, ρ1, N1, ⟨e1, e1'⟩, e2, e3, e4, e5, ⟨e6, e6'⟩, e7, e8, e9⟩ := en_state hb (by omega) hw hp
  obtain ⟨⟨k1, k2⟩, ⟨k3, k4⟩, k5, k6⟩ := id e3
  have hLL := e1.len
  have hrl1 := (List.getElem?_eq_some_iff.mp k2).1
  refine x_aload_n dJ5_append_cf1ce_24 rfl rfl (by omega) ?_
  refine x_aload_n dJ5_append_cf1ce_25 rfl rfl (by omega) ?_
  refine x_getI (f := 3) fJ5_append_cf1ce_26 rfl k1 (by decide) rfl ?_
  refine Gx.topE (e6'.trans hn.1) ?_
  refine x_aload_nS dJ5_append_cf1ce_29 rfl rfl ?_
  refine x_callWX (as := [(0, n), (3, ((20 + i : Nat) : Int))]) (rest := []) (k := 0) (mc := 0) (ms := 0) fJ5_append_cf1ce_30 ⟨Nat.le_of_ble_eq_true rfl, Nat.le_of_ble_eq_true rfl⟩ ⟨show 0 + 0 + 1 + 0 ≤ 1 by omega, show 0 + 0 + enN N (n + lln i) + 0 ≤ enN N (n + lln i) by omega⟩ xK_A e2 rfl rfl k1 rfl rfl rfl rfl rfl (Nat.le_of_ble_eq_true rfl) ⟨fun _ => (by omega), nt_no (by decide), nt_no (by decide), trivial⟩ trivial (s_putStringAtL e3 hi ⟨hn.2.1, by omega⟩ e2) (fun G3 μ2 r hp hx3 => ?_)
  obtain ⟨rfl, rfl, rfl⟩ := hp
  have hb3 : am_cl μ1 i ρ1 n b 3 = n := by rw [am_cl_o (by omega), e6', hn.1]
  refine x_aload_n dJ5_append_cf1ce_33 rfl rfl (by omega) ?_
  refine x_dup dJ5_append_cf1ce_34 (by simp) ?_
  refine x_getI (f := 3) fJ5_append_cf1ce_35 rfl k1 (by decide) rfl ?_
  refine Gx.topE hb3 ?_
  refine x_iload_n dJ5_append_cf1ce_38 rfl rfl ?_
  refine x_iadd dJ5_append_cf1ce_39 ?_
  refine x_putI (f := 3) fJ5_append_cf1ce_40 rfl k1 rfl rfl rfl ?_
  refine x_aload_n dJ5_append_cf1ce_43 rfl rfl (by omega) ?_
  refine x_aret dJ5_append_cf1ce_44 rfl (Or.inl ⟨_, rfl⟩) ⟨by omega, by omega⟩ e1 ⟨rfl, ρ1, N1, ⟨e1, e1'⟩, ?_, ⟨⟨k1, k2⟩, ⟨?_, ?_⟩, k5, fun i i0 i1 => ?_⟩, e4, am_up_at, fun j j0 j1 => ?_, fun j j0 j1 => ?_, fun o2 o1 o2b o2r => ?_, e8⟩
  · intro o2 ci n2 hs hci k hk
    obtain ⟨w1, w2⟩ := e2 o2 ci n2 hs hci k hk
    refine ⟨w1, fun q => ?_⟩
    have hne1 : (o2 : Int) ≠ (ρ1 : Int) := by
      intro z
      have z' : o2 = ρ1 := by omega
      rw [z', k2] at hs
      cases hs
      omega
    by_cases z : (o2 : Int) = (b : Int)
    · have z' : o2 = b := by omega
      subst z'
      have hz : ((k : Nat) : Int) ≠ 3 := by
        intro z3
        have z4 : k = 3 := by omega
        rw [k1] at hs
        cases hs
        subst z4
        exact absurd q (by decide)
      rw [am_up_nk hz, am_cl_o hne1]
      exact w2 q
    · rw [am_up_o z, am_cl_o hne1]
      exact w2 q
  · rw [am_up_nk (by decide), am_cl_o (by omega)]; exact k3
  · rw [am_up_nk (by decide), am_cl_o (by omega)]; exact k4
  · rw [am_up_o (by omega), am_cl_at]
    split
    · have := lby_b (j := i - n) hi (by omega); omega
    · exact k6 i i0 i1
  · rw [am_up_o (by omega), am_cl_at, if_neg (by omega)]; exact e5 j j0 (by omega)
  · rw [am_up_o (by omega), am_cl_at, if_pos (by omega), show n + j - n = j by omega]
  · rw [am_up_o o2b, am_cl_o (by rcases e8 with q | q <;> omega)]; exact e7 o2 o1 o2b
theorem s_append_L {b ρ N i : Nat} {n : Int} (hb : BDs G μ b ρ N) (hi : i < 9) (hn : μ b 3 = n ∧ 0 ≤ n ∧ n ≤ N) (hm : n + lln i ≤ 40000 ∧ 2 * (N : Int) + 2 ≤ 40000) (hw : wfm G μ) :
    Gx (xK G M_J4_append_15ec4 1 (enN N (n + lln i)) (apP G μ b ρ N n (lln i) (lby i))) G M_J4_append_15ec4 0 0 0 [(2, (b : Int)), (3, ((20 + i : Nat) : Int))] [] μ := by
  have hbl := (List.getElem?_eq_some_iff.mp hb.1.1).1
  refine x_aload_n dJ4_append_15ec4_0 rfl rfl (by omega) ?_
  refine x_aload_nS dJ4_append_15ec4_1 rfl rfl ?_
  refine x_callUX (C := "java/lang/StringBuilder") (as := [(3, ((20 + i : Nat) : Int))]) (rest := []) (k := 1) (mc := 1) (ms := enN N (n + lln i)) fJ4_append_15ec4_2 ⟨Nat.le_of_ble_eq_true rfl, Nat.le_of_ble_eq_true rfl⟩ ⟨show 0 + 1 ≤ 1 by omega, show 0 + enN N (n + lln i) ≤ enN N (n + lln i) by omega⟩ xK_A hw rfl rfl hb.1.1 rfl rfl rfl rfl rfl (Nat.le_of_ble_eq_true rfl) ⟨fun _ => (by omega), nt_no (by decide), trivial⟩ trivial (s_J5_append_L hb hi hn hm hw) (fun G' μ' r hp hx => ?_)
  obtain ⟨rfl, hp⟩ := hp
  refine x_pop dJ4_append_15ec4_5 (show (2 : Nat) ≠ 1 by decide) ?_
  refine x_aload_n dJ4_append_15ec4_6 rfl rfl (by omega) ?_
  exact x_aret dJ4_append_15ec4_7 rfl (Or.inl ⟨_, rfl⟩) ⟨by omega, by omega⟩ hx ⟨rfl, hp⟩
/-- a builder that isn't full: her string -/
theorem s_toStringN {b ρ N n : Nat} (hb : BDs G μ b ρ N) (hn : μ b 3 = (n : Int) ∧ n < N) (hw : wfm G μ) : Gx (xK G M_J4_toString_0e30d 2 (4 + n) (tsP G μ ρ n)) G M_J4_toString_0e30d 0 0 0 [(2, (b : Int))] [] μ := by
  have hrl := (List.getElem?_eq_some_iff.mp hb.1.2).1
  have hN := hb.2.2.1
  exact s_toString hb ⟨hn.1, by omega⟩ hw (fun q μ2 e w => s_copyOfRange_lt (Xt.sh (Xt.ax G (8, 4) q) hb.1.2) hn.2 (by omega) (fun i i0 i1 => by rw [e ρ (by omega)]; exact hb.2.2.2 i i0 i1) w)
/-- a character of a string -/
theorem s_ci {x m : Int} (h : 0 ≤ x ∧ x < m) (hm : m ≤ 100000) (hw : wfm G μ) : Gx (xK G M_J_ci 0 0 (roP G μ)) G M_J_ci 0 0 0 [(0, x), (0, m)] [] μ := by
  refine x_iload_n dJ_ci_0 rfl rfl ?_
  refine x_iload_n dJ_ci_1 rfl rfl ?_
  refine x_getsF dJ_ci_2 rfl ?_ ?_
  · refine x_callSX (as := [(0, x), (0, m), (2, -1)]) (rest := []) (k := 0) (mc := 0) (ms := 0) (P := puP G μ (some (0, x))) fJ_ci_5.g ⟨Nat.le_of_ble_eq_true rfl, Nat.le_of_ble_eq_true rfl⟩ ⟨Nat.le_refl _, Nat.le_refl _⟩ xK_A hw rfl rfl rfl rfl rfl (Nat.le_of_ble_eq_true rfl) ⟨nt_no (by decide), nt_no (by decide), trivial⟩ trivial (s_pci h hm) (fun G' r μ' hp hx => ?_)
    obtain ⟨rfl, rfl, rfl⟩ := hp
    refine x_pop dJ_ci_8 (show (0 : Nat) ≠ 1 by decide) ?_
    exact x_vretX dJ_ci_9 rfl ⟨Nat.le_refl _, Nat.le_refl _⟩ Xt.rf ⟨rfl, rfl, rfl⟩
  · refine x_callSX (as := [(0, x), (0, m), (3, 12)]) (rest := []) (k := 0) (mc := 0) (ms := 0) (P := puP G μ (some (0, x))) fJ_ci_5.g ⟨Nat.le_of_ble_eq_true rfl, Nat.le_of_ble_eq_true rfl⟩ ⟨Nat.le_refl _, Nat.le_refl _⟩ xK_A hw rfl rfl rfl rfl rfl (Nat.le_of_ble_eq_true rfl) ⟨nt_no (by decide), nt_no (by decide), trivial⟩ trivial (s_pci h hm) (fun G' r μ' hp hx => ?_)
    obtain ⟨rfl, rfl, rfl⟩ := hp
    refine x_pop dJ_ci_8 (show (0 : Nat) ≠ 1 by decide) ?_
    exact x_vretX dJ_ci_9 rfl ⟨Nat.le_refl _, Nat.le_refl _⟩ Xt.rf ⟨rfl, rfl, rfl⟩
theorem s_lca {ρ n : Nat} {x : Int} (h : (gS G)[ρ]? = some (22, n)) (hx : 0 ≤ x ∧ x < n) (hn : n ≤ 100000) (hb : 0 ≤ μ ρ x ∧ μ ρ x ≤ 127) (hw : wfm G μ) : Gx (xK G M_J_lca 0 0 (puP G μ (some (0, μ ρ x)))) G M_J_lca 0 0 0 [(2, (ρ : Int)), (0, x)] [] μ := by
  have hrl := (List.getElem?_eq_some_iff.mp h).1
  refine x_iload_n dJ_lca_0 rfl rfl ?_
  refine x_aload_n dJ_lca_1 rfl rfl (by omega) ?_
  refine x_alen (t := 2) (f := (n : Int)) dJ_lca_2 rfl h (by decide) rfl ?_
  refine x_callSX (as := [(0, x), (0, (n : Int))]) (rest := []) (k := 0) (mc := 0) (ms := 0) (P := roP G μ) fJ_lca_3.g ⟨Nat.le_of_ble_eq_true rfl, Nat.le_of_ble_eq_true rfl⟩ ⟨Nat.le_refl _, Nat.le_refl _⟩ xK_A hw rfl rfl rfl rfl rfl (Nat.le_of_ble_eq_true rfl) ⟨fun _ => (by omega), nt_no (by decide), trivial⟩ trivial (s_ci hx (by omega) hw) (fun G' r μ' hp hxt => ?_)
  obtain ⟨rfl, rfl, rfl⟩ := hp
  refine x_aload_n dJ_lca_6 rfl rfl (by omega) ?_
  refine x_iload_n dJ_lca_7 rfl rfl ?_
  refine x_bald dJ_lca_8 rfl h (by omega) hx.1 hx.2 ?_
  refine x_sipush dJ_lca_9 (by decide +kernel) ?_
  refine x_iand255 dJ_lca_12 ?_
  refine Gx.topE (show μ' ρ x % 256 = μ' ρ x by omega) ?_
  refine x_i2c dJ_lca_13 (by omega) ?_
  exact x_nretX dJ_lca_14 rfl (tx_cz (by omega)).1 ⟨Nat.le_refl _, Nat.le_refl _⟩ Xt.rf ⟨rfl, rfl, rfl⟩
theorem s_ca {o ρ n : Nat} {x : Int} (h : STs G μ o ρ n) (hx : 0 ≤ x ∧ x < n) (hw : wfm G μ) : Gx (xK G M_J_ca 0 0 (puP G μ (some (0, μ ρ x)))) G M_J_ca 0 0 0 [(2, (o : Int)), (0, x)] [] μ := by
  obtain ⟨⟨h1, h2⟩, ⟨h3, h4⟩, h5, h6⟩ := id h
  have ho := (List.getElem?_eq_some_iff.mp h1).1
  have hrl := (List.getElem?_eq_some_iff.mp h2).1
  have hb := h6 x hx.1 hx.2
  refine x_aload_n dJ_ca_0 rfl rfl (by omega) ?_
  refine x_callWX (as := []) (rest := []) (k := 0) (mc := 0) (ms := 0) fJ_ca_1g ⟨Nat.le_of_ble_eq_true rfl, Nat.le_of_ble_eq_true rfl⟩ ⟨Nat.le_refl _, Nat.le_refl _⟩ xK_A hw rfl rfl h1 rfl rfl rfl rfl rfl (Nat.le_of_ble_eq_true rfl) ⟨fun _ => (by omega), nt_no (by decide), trivial⟩ trivial (s_isL h) (fun G' μ' r hp hxt => ?_)
  obtain ⟨rfl, rfl, rfl⟩ := hp
  refine x_if_eq (tgt := 16) dJ_ca_4 rfl (R32.in (by decide)) (fun q => absurd q (by decide)) (fun _ => ?_)
  refine x_aload_n dJ_ca_7 rfl rfl (by omega) ?_
  refine x_getD (f := 0) fJ_ca_8g rfl h1 rfl rfl ?_
  refine Gx.topE h3 ?_
  refine x_iload_n dJ_ca_11 rfl rfl ?_
  refine x_callSX (as := [(2, (ρ : Int)), (0, x)]) (rest := []) (k := 0) (mc := 0) (ms := 0) (P := puP G' μ' (some (0, μ' ρ x))) fJ_ca_12.g ⟨Nat.le_of_ble_eq_true rfl, Nat.le_of_ble_eq_true rfl⟩ ⟨Nat.le_refl _, Nat.le_refl _⟩ xK_A hw rfl rfl rfl rfl rfl (Nat.le_of_ble_eq_true rfl) ⟨fun _ => (by omega), nt_no (by decide), trivial⟩ trivial (s_lca h2 hx (by omega) hb hw) (fun G' r μ' hp hxt => ?_)
  obtain ⟨rfl, rfl, rfl⟩ := hp
  exact x_nretX dJ_ca_15 rfl (tx_cz (by omega)).1 ⟨Nat.le_refl _, Nat.le_refl _⟩ Xt.rf ⟨rfl, rfl, rfl⟩
end ltx2
