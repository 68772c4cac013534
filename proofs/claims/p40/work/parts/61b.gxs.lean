/-! ===== Strings and builders as objects of the world: rules ===== -/
section gxs
variable {K : XKt} {G : AG} {M M2 : AMeth} {cs ss pc : Nat} {ls ls2 st rest as : List AV} {μ : Mu} {k n : Nat}
/-- a field that is a byte -/
theorem x_putB {ci k o : Nat} {z f v : Int} (hf : am_Fp M pc ci k) (ho : z = (o : Int)) (hs : (gS G)[o]? = some (ci, am_N ci)) (ht : am_ct ci k = 0) (hty : am_cty ci k = .byte) (hk : f = (k : Int)) (hv : v = 0 ∨ v = 1) (kk : Gx K G M cs ss (pc + 3) ls st (am_up μ z f v)) : Gx K G M cs ss pc ls ((0, v) :: (2, z) :: st) μ := by
  subst ho; subst hk
  intro p e s m args below meth c H locs lsA hI
  rw [List.map_cons, List.map_cons, am_ref_pos (by omega)]
  exact gm_putf (v := v) hf hs rfl (by unfold am_fv; rw [ht]; simp [am_up, am_c]) (by rw [hty]; rcases hv with rfl | rfl <;> rfl) (by rw [hty]; rcases hv with rfl | rfl <;> rfl) hI (fun H1 locs1 hI1 => kk p e s m args below meth c H1 locs1 lsA hI1)
/-- a field that is a row -/
theorem x_putA {ci k o : Nat} {z f v : Int} {ty : FieldType} (hf : am_Fp M pc ci k) (ho : z = (o : Int)) (hs : (gS G)[o]? = some (ci, am_N ci)) (ht : am_ct ci k = 3) (hty : am_cty ci k = .array ty) (hk : f = (k : Int)) (hv : 0 ≤ v) (kk : Gx K G M cs ss (pc + 3) ls st (am_up μ z f v)) : Gx K G M cs ss pc ls ((2, v) :: (2, z) :: st) μ := by
  subst ho; subst hk
  intro p e s m args below meth c H locs lsA hI
  rw [List.map_cons, List.map_cons, am_ref_pos (o := (o : Int)) (by omega)]
  exact gm_putf (v := v) hf hs rfl (by unfold am_fv; rw [ht]; simp [am_up, am_c]) (by rw [hty, am_ref_pos hv]; rfl) (by rw [hty, am_ref_pos hv]; rfl) hI (fun H1 locs1 hI1 => kk p e s m args below meth c H1 locs1 lsA hI1)
/-- a final field, written by the constructor of its class -/
def am_Ff (M : AMeth) (pc ci k : Nat) : Prop := ∃ (idx : Nat) (q : vw_C), decode M.2.1 pc = .ok (.putfield idx, 3) ∧ vwCl[ci]? = some q ∧ k < q.2.2 ∧ Cond.fieldLink M.1.cls idx (q.2.1 k).1 (q.2.1 k).2.1 (q.2.1 k).2.2.1 ∈ TW ∧ (q.2.1 k).2.2.2 = true ∧ (q.2.1 k).1 = M.1.cls
/-- new rows of bytes -/
theorem x_newaB {i : Int} {N : Nat} (hKA : gx_A K) (hR : cs + 1 ≤ K.1.cells ∧ ss + N ≤ K.1.slots) (hd : decode M.2.1 pc = .ok (.newarray .byte, 2)) (hwd : Cond.arrayClass .byte ∈ TW) (hi : i = (N : Int)) (hN : N ≤ 100000) (hw : wfm G μ) (hol : lsok ((gS G).length : Int) ls) (hor : lsok ((gS G).length : Int) st)
    (kk : ∀ q : Nat, Gx K (ax G (22, N) q) M (cs + 1) (ss + N) (pc + 2) ls ((2, ((gS G).length : Int)) :: st) (am_nw μ (gS G).length)) : Gx K G M cs ss pc ls ((0, i) :: st) μ := by
  subst hi
  intro p e s m args below meth c H locs lsA hI
  obtain ⟨hX, hK, hP, hD, hS, hE, hl⟩ := hI
  have hc : (Int32.ofInt (N : Int)).toInt = (N : Int) := R32.eq ⟨by omega, by omega⟩
  refine va_newa (atype := .byte) (ty := .byte) (N' := N) (a0 := (N, .inl fun _ => 0)) hX.1 hX.2.1 (hX.2.2.2.2.1 _ hwd) rfl hK hP hD hS (hKA s) (fun _ => rfl) (by rw [Int32.lt_iff_toInt_lt, hc]; show ¬ (N : Int) < 0; omega) (by show (Int32.ofInt (N : Int)).toInt.toNat = N; rw [hc]; omega) (by show N * 1 ≤ 536870912; omega) hR.1 hR.2 hd (fun q cx H1 hK1 hP1 hD1 hS1 => ?_)
  have e1 : cx = gC G 2 := Option.some.inj ((va_nm_byte (hK1.2 4 (cx, .byte) rfl).2).symm.trans (va_nm_byte (hK.2 2 (gC G 2, .byte) rfl).2))
  subst e1
  have e2 : am_pic (ax G (22, N) q) (am_nw μ (gS G).length) = am_pic G μ ++ [(q, .inl (gC G 2, N, .inl fun _ => 0))] := by
    rw [am_pic_ax hw (fun o ho k => congrFun (am_nw_o (by omega)) k), am_el_row (t := 2) ax_sh (by decide)]
    have ef : (fun j : Nat => Int32.ofInt (am_nw μ (gS G).length ((gS G).length : Int) (j : Int))) = fun _ => 0 := by
      funext j
      rw [am_nw_at]
      rfl
    show am_pic G μ ++ [(q, .inl (gC G 2, N, .inl (fun j : Nat => Int32.ofInt (am_nw μ (gS G).length ((gS G).length : Int) (j : Int)))))] = _
    rw [ef]
  rw [← e2] at hP1 hD1
  have h9 := kk q p e s m args below meth c H1 locs lsA ⟨hX, hK, hP1, hD1, hS1, hE, by rw [am_l_xt (Xt.ax G (22, N) q) ls 0 hol]; exact hl⟩
  rw [List.map_cons, am_map_xt (Xt.ax G (22, N) q) hor, am_ref_pos (by omega), show ((gS G).length : Int).toNat = (gS G).length by omega, ax_Aq] at h9
  exact h9
/-- a new object of a class of the world: all its cells nought (a reference that moves: none) -/
def am_n0 (μ : Mu) (L ci : Nat) : Mu := fun a b => if a = (L : Int) then (if am_ct ci b.toNat = 3 then -1 else 0) else μ a b
theorem am_n0_o {L ci : Nat} {o : Int} (h : o ≠ (L : Int)) : am_n0 μ L ci o = μ o := by funext b; simp [am_n0, h]
theorem am_n0_at {L ci k : Nat} : am_n0 μ L ci (L : Int) (k : Int) = if am_ct ci k = 3 then -1 else 0 := by simp [am_n0]
def am_Fn (M : AMeth) (pc ci : Nat) : Prop := ∃ (idx : Nat) (q : vw_C), decode M.2.1 pc = .ok (.new idx, 3) ∧ vwCl[ci]? = some q ∧ Cond.classLink M.1.cls idx q.1 ∈ TW ∧ Cond.instantiable q.1 q.2.2 ∈ TW ∧ Cond.initialized q.1 ∈ TW ∧ ∀ k, k < q.2.2 → (am_ct ci k = 3 ∧ defaultValue (am_cty ci k) = .null) ∨ (am_ct ci k < 2 ∧ defaultValue (am_cty ci k) = .int 0)
theorem x_newO {ci : Nat} (hf : am_Fn M pc ci) (hKA : gx_A K) (hR : cs + 1 ≤ K.1.cells ∧ ss + am_N ci ≤ K.1.slots) (hw : wfm G μ) (hol : lsok ((gS G).length : Int) ls) (hor : lsok ((gS G).length : Int) st)
    (kk : ∀ q : Nat, Gx K (ax G (ci, am_N ci) q) M (cs + 1) (ss + am_N ci) (pc + 3) ls ((2, ((gS G).length : Int)) :: st) (am_n0 μ (gS G).length ci)) : Gx K G M cs ss pc ls st μ := by
  obtain ⟨idx, ⟨C, T, N⟩, hd, hc, hcl, hins, hini, hdef⟩ := hf
  obtain ⟨hin, hpa, hnm, hN, hci⟩ := am_cls ci _ hc
  intro p e s m args below meth c H locs lsA hI
  obtain ⟨hX, hK, hP, hD, hS, hE, hl⟩ := hI
  have hN' : N = am_N ci := hN
  subst hN'
  have hfv : ∀ (q k : Nat), k < am_N ci → am_fv (ax G (ci, am_N ci) q) ci (gS G).length k (am_n0 μ (gS G).length ci) = defaultValue (am_cty ci k) := by
    intro q k hk
    rcases hdef k hk with ⟨h1, h2⟩ | ⟨h1, h2⟩
    · rw [h2]
      unfold am_fv
      rw [h1]
      show am_ref _ (am_n0 μ (gS G).length ci ((gS G).length : Int) (k : Int)) = _
      rw [am_n0_at, if_pos h1]
      rfl
    · rw [h2]
      unfold am_fv
      have h3 : am_n0 μ (gS G).length ci ((gS G).length : Int) (k : Int) = 0 := by rw [am_n0_at, if_neg (by omega)]
      match h : am_ct ci k, h1 with
      | 0, _ => show Value.int (Int32.ofInt (am_n0 μ (gS G).length ci ((gS G).length : Int) (k : Int))) = _; rw [h3]; rfl
      | 1, _ => show Value.int (Int32.ofInt (am_n0 μ (gS G).length ci ((gS G).length : Int) (k : Int))) = _; rw [h3]; rfl
  refine va_new (fs := (List.range (am_N ci)).map fun k => am_fv (ax G (ci, am_N ci) 0) ci (gS G).length k (am_n0 μ (gS G).length ci)) hX.1 hX.2.1 hX.2.2.2.2.1 hin (am_cty ci) hpa hX.2.2.2.1 (hX.2.2.2.2.1 _ hcl) (hX.2.2.2.2.1 _ hins) (hX.2.2.2.2.1 _ hini) hK hP hD hS (hKA s) hc (fun j hj => ?_) hR.1 hR.2 hd (fun q H1 hP1 hD1 hS1 => ?_)
  · unfold vp_V
    have hj' : j < am_N ci := hj
    rw [List.getD_eq_getElem?_getD, List.getElem?_map, List.getElem?_range hj', Option.map_some, Option.getD_some, hfv 0 j hj']
  · have e2 : am_pic (ax G (ci, am_N ci) q) (am_n0 μ (gS G).length ci) = am_pic G μ ++ [(q, .inr (ci, (List.range (am_N ci)).map fun k => am_fv (ax G (ci, am_N ci) 0) ci (gS G).length k (am_n0 μ (gS G).length ci)))] := by
      rw [am_pic_ax hw (fun o ho k => congrFun (am_n0_o (by omega)) k), am_el_obj ax_sh hci]
      congr 4
      refine congrArg (Prod.mk ci) (List.map_congr_left (fun k hk => ?_))
      have hk' := List.mem_range.mp hk
      rw [hfv q k hk', hfv 0 k hk']
    rw [← e2] at hP1 hD1
    have h9 := kk q p e s m args below meth c H1 locs lsA ⟨hX, hK, hP1, hD1, hS1, hE, by rw [am_l_xt (Xt.ax G (ci, am_N ci) q) ls 0 hol]; exact hl⟩
    rw [List.map_cons, am_map_xt (Xt.ax G (ci, am_N ci) q) hor, am_ref_pos (by omega), show ((gS G).length : Int).toNat = (gS G).length by omega, ax_Aq] at h9
    exact h9
end gxs
section gxs2
variable {K : XKt} {G : AG} {M M2 : AMeth} {cs ss pc mc ms : Nat} {ls ls2 st rest as : List AV} {μ : Mu} {k n : Nat} {P : AG → Option AV → Mu → Prop}
/-- behind a call of a method that makes objects -/
theorem gx_backX {p : Program} {e : Env} {s : State} {m : MethodId} {args : Array Value} {below : List Frame} {meth : Method} {c : Code} {H : Heap} {locs : List Loc} {lsA : Array Slot} {a : Array Value} {Q : State → Prop} {st0 : List Value}
    (hKA : gx_A K) (hol : lsok ((gS G).length : Int) ls) (hor : lsok ((gS G).length : Int) rest) (hI : gx_In K G M p s m args meth c H locs lsA ls μ)
    (hrun : va_Run p (gL G) e K.1 s m args below meth c H locs cs ss mc ms (F0 m pc lsA st0) (rest.map (am_c G)) (x_Q G H.size P a) (am_A G H.size))
    (kk : ∀ (G' : AG) (r : Option AV) (μ' : Mu) (H1 : Heap) (locs1 : List Loc), P G' r μ' → Xt G G' → gx_In K G' M p s m args meth c H1 locs1 lsA ls μ' → W p (gL G) e K.1 s m args below meth c H1 locs1 (cs + mc) (ss + ms) Q (F0 m (pc + 3) lsA ((r.toList ++ rest).map (am_c G')))) :
    W p (gL G) e K.1 s m args below meth c H locs cs ss Q (F0 m pc lsA st0) := by
  have hsub := gx_sub hKA Xt.rf hI
  have hS := hI.2.2.2.2.1
  have hl := hI.2.2.2.2.2.2
  intro T hT X
  obtain ⟨v, st₀, t, T', L, h0, X', hL, e1, e2, ⟨G', r, μ', hp, hx, hv, hP1, hD1, hK1, hz, hk⟩, stp⟩ := hrun T hT X
  cases hv
  rw [h0] at hz hk
  have hIn : gx_In K G' M p s m args meth c T'.heap (locs ++ L) lsA ls μ' := by
    refine ⟨hI.1, ?_, ?_, ?_, ⟨Nat.le_trans hS.1 (by rw [e1]; exact hz), fun q h1 h2 => by rw [e1, hk q (Nat.lt_of_lt_of_le h1 hS.1) (fun z => h2 (hsub q z))]; exact hS.2.1 q h1 h2, fun q hq => by
      rcases List.mem_append.mp hq with h | h
      · exact hS.2.2 q h
      · exact hsub _ (hL q h)⟩, ⟨?_, ?_, hI.2.2.2.2.2.1.2.2⟩, ?_⟩
    · have h1 := hI.2.1
      unfold am_tys at h1 ⊢
      rw [hx.1, hx.2.1]
      exact h1
    · rw [e1, hx.1]; exact hP1
    · exact ⟨hD1.1, fun k q hk => hsub q.1 (hD1.2 k q hk)⟩
    · have h1 := hI.2.2.2.2.2.1.1
      unfold am_E0 am_Sc at h1 ⊢
      rw [hx.2.2.2.1, hx.2.2.2.2.1]
      exact h1
    · intro i q hq
      rw [hx.2.2.2.1]
      exact hI.2.2.2.2.2.1.2.1 i q hq
    · rw [am_l_xt hx ls 0 hol]; exact hl
  obtain ⟨t2, a1, b1⟩ := kk G' r μ' T'.heap (locs ++ L) hp hx hIn T' rfl X'
  refine ⟨t2, stp t2 ?_, b1⟩
  have e9 : (F0 m (pc + 3) lsA ((r.toList ++ rest).map (am_c G')) : JFrame) = { F0 m pc lsA st0 with pc := pc + 3, stack := (r.map (am_c G')).toList ++ rest.map (am_c G) } := by
    rw [List.map_append, am_map_xt hx hor]
    cases r <;> rfl
  rw [e9] at a1
  exact a1
/-- a call of a constructor -/
def g_Ci (M : AMeth) (pc : Nat) (M2 : AMeth) (n : Nat) : Prop := ∃ idx : Nat, decode M.2.1 pc = .ok (.invokespecial idx, 3) ∧ Cond.methodLink M.1.cls idx M2.1 ∈ TW ∧ Cond.instanceMethod M2.1 ∈ TW ∧ M2.1.name = "<init>" ∧ M2.2.2.2.1 = none ∧ am_Ok M2 n
theorem x_callIX {o ci : Nat} {z : Int} (hf : g_Ci M pc M2 n) (hR : g_Room K.1 M2) (hroom : cs + mc ≤ K.1.cells ∧ ss + ms ≤ K.1.slots) (hKA : gx_A K) (hw : wfm G μ)
    (hst : st = as.reverse ++ (2, z) :: rest) (ho : z = (o : Int)) (hs : (gS G)[o]? = some (ci, am_N ci)) (hn : as.length = n) (hls : ls2 = am_args ((2, z) :: as) ++ List.replicate k (9, 0)) (hl2 : ls2.length = M2.2.2.1) (ht : am_tok as = true) (hcat : am_cs rest ≤ 8) (hol : lsok ((gS G).length : Int) ls) (hor : lsok ((gS G).length : Int) rest)
    (hcall : Gx (xK G M2 mc ms P) G M2 0 0 0 ls2 [] μ) (kk : ∀ (G' : AG) (μ' : Mu) (r : Option AV), P G' r μ' → Xt G G' → Gx K G' M (cs + mc) (ss + ms) (pc + 3) ls (r.toList ++ rest) μ') : Gx K G M cs ss pc ls st μ := by
  obtain ⟨idx, hd, hlink, hinst, hnm, hret, hok⟩ := hf
  intro p e s m args below meth c H locs lsA hI
  have hX0 := hI.1
  have hl := hI.2.2.2.2.2.2
  subst hst
  have hz : 0 ≤ z := by omega
  have hpre := gx_pre (as := (2, z) :: as) hKA Xt.rf hw hI
  rw [List.map_cons, am_ref_pos hz] at hpre
  have hM := gx_met (as := (2, z) :: as) hok hls hl2 (by simp [am_tok, ht]) hcall H.size
  refine gx_backX hKA hol hor hI (a := (Value.ref (gA G z.toNat) :: as.map (am_c G)).toArray) (va_runI (As := as.map (am_c G)) (b := gA G z.toNat) (bytes := M2.2.1) (maxL := M2.2.2.1) (own := M.1.cls) (index := idx) (Ts := TW) ⟨hX0.1, hX0.2.1, hX0.2.2.1, hX0.2.2.2.1, hX0.2.2.2.2.1⟩ hM (cwI n hX0.2.2.2.2.1 (am_good (fun w h => am_ws_in hok w h)) (by unfold am_ws; rw [hret]) rfl rfl (hX0.2.2.2.2.1 _ hok.2.1) (hX0.2.2.2.2.1 _ hlink) (hX0.2.2.2.2.1 _ hinst) hnm hok.2.2.2 hR) hpre rfl (by rw [List.length_map, hn]) hl.1 ?_ (lv_room (by rw [am_cs_eq]; exact hcat)) hd hroom) (fun G' r μ' H1 locs1 hp hx hI1 => ?_)
  · show (as.reverse ++ (2, z) :: rest).map (am_c G) = _
    rw [List.map_append, List.map_reverse, List.map_cons, am_ref_pos hz]
  · have h9 := kk G' μ' r hp hx p e s m args below meth c H1 locs1 lsA hI1
    unfold gx_W at h9
    rw [hx.2.2.1] at h9
    exact h9
end gxs2
section gxs3
variable {K : XKt} {G : AG} {M M2 : AMeth} {cs ss pc mc ms : Nat} {ls ls2 st rest as : List AV} {μ : Mu} {k n : Nat} {P : AG → Option AV → Mu → Prop}
theorem gm_putF {ci k o n : Nat} {v : Int} {x : Value} (hf : am_Ff M pc ci k) (hnm0 : M.1.name = "<init>") (hs : (gS G)[o]? = some (ci, n)) (hn : n = am_N ci) (hx : am_fv G ci o k (am_up μ o k v) = x) (hnar : narrow (am_cty ci k) x = x) (hfit : fits (am_cty ci k) x = true)
    {p : Program} {e : Env} {s : State} {m : MethodId} {args : Array Value} {below : List Frame} {meth : Method} {c : Code} {H : Heap} {locs : List Loc} {lsA : Array Slot} {Q : State → Prop} {rest : List Value}
    (hI : gx_In K G M p s m args meth c H locs lsA ls μ) (kk : ∀ (H1 : Heap) (locs1 : List Loc), gx_In K G M p s m args meth c H1 locs1 lsA ls (am_up μ o k v) → gx_W K G cs ss p e s m args below meth c H1 locs1 Q (pc + 3) lsA rest) : gx_W K G cs ss p e s m args below meth c H locs Q pc lsA (x :: .ref (gA G o) :: rest) := by
  obtain ⟨idx, ⟨C, T, N⟩, hd, hc, hk, hw, hfin, hdecl⟩ := hf
  obtain ⟨hin, hpa, hnm, hN, hci⟩ := am_cls ci _ hc
  obtain ⟨hX, hK, hP, hD, hS, hE, hl⟩ := hI
  have hkn : k < n := by rw [hn, ← hN]; exact hk
  have he := am_pic_at (G := G) (μ := μ) hs (am_el_obj hs hci)
  refine va_putF (ref := (T k).1) hX.1 hX.2.1 hX.2.2.2.2.1 hin (am_cty ci) hpa hnm hX.2.2.2.1 hK hP hD hS o he hc k hk (hX.2.2.2.2.1 _ hw) (fun _ h => h) hfin (hE.2.2 hnm0) hdecl (hpa k hk) hnar hfit (by simpa using hkn) hd (fun H1 locs1 hP1 hD1 hS1 => ?_)
  have h9 : (am_pic G μ).set o (gA G o, .inr (ci, ((List.range n).map fun j => am_fv G ci o j μ).set k x)) = am_pic G (am_up μ o k v) := by
    rw [am_put_list hkn hx, ← am_el_obj (G := G) hs hci]
    exact am_pic_set (fun o' h b => am_up_ne (by omega) b)
  rw [h9] at hP1 hD1
  exact kk H1 locs1 ⟨hX, hK, hP1, hD1, hS1, hE, hl⟩
theorem x_putFA {ci k o : Nat} {z f v : Int} {ty : FieldType} (hf : am_Ff M pc ci k) (hnm0 : M.1.name = "<init>") (ho : z = (o : Int)) (hs : (gS G)[o]? = some (ci, am_N ci)) (ht : am_ct ci k = 3) (hty : am_cty ci k = .array ty) (hk : f = (k : Int)) (hv : 0 ≤ v) (kk : Gx K G M cs ss (pc + 3) ls st (am_up μ z f v)) : Gx K G M cs ss pc ls ((2, v) :: (2, z) :: st) μ := by
  subst ho; subst hk
  intro p e s m args below meth c H locs lsA hI
  rw [List.map_cons, List.map_cons, am_ref_pos (o := (o : Int)) (by omega)]
  exact gm_putF (v := v) hf hnm0 hs rfl (by unfold am_fv; rw [ht]; simp [am_up, am_c]) (by rw [hty, am_ref_pos hv]; rfl) (by rw [hty, am_ref_pos hv]; rfl) hI (fun H1 locs1 hI1 => kk p e s m args below meth c H1 locs1 lsA hI1)
theorem x_putFB {ci k o : Nat} {z f v : Int} (hf : am_Ff M pc ci k) (hnm0 : M.1.name = "<init>") (ho : z = (o : Int)) (hs : (gS G)[o]? = some (ci, am_N ci)) (ht : am_ct ci k = 0) (hty : am_cty ci k = .byte) (hk : f = (k : Int)) (hv : v = 0 ∨ v = 1) (kk : Gx K G M cs ss (pc + 3) ls st (am_up μ z f v)) : Gx K G M cs ss pc ls ((0, v) :: (2, z) :: st) μ := by
  subst ho; subst hk
  intro p e s m args below meth c H locs lsA hI
  rw [List.map_cons, List.map_cons, am_ref_pos (by omega)]
  exact gm_putF (v := v) hf hnm0 hs rfl (by unfold am_fv; rw [ht]; simp [am_up, am_c]) (by rw [hty]; rcases hv with rfl | rfl <;> rfl) (by rw [hty]; rcases hv with rfl | rfl <;> rfl) hI (fun H1 locs1 hI1 => kk p e s m args below meth c H1 locs1 lsA hI1)
/-- bytes copied from one row to another -/
def am_cq (μ : Mu) (o1 o2 sp dp k : Int) : Mu := fun a b => if a = o2 then (if dp ≤ b ∧ b < dp + k then μ o1 (b - dp + sp) else μ o2 b) else μ a b
theorem am_cq_o {o1 o2 sp dp k a : Int} (h : a ≠ o2) : am_cq μ o1 o2 sp dp k a = μ a := by funext b; exact if_neg h
theorem am_cq_at {o1 o2 sp dp k b : Int} : am_cq μ o1 o2 sp dp k o2 b = if dp ≤ b ∧ b < dp + k then μ o1 (b - dp + sp) else μ o2 b := if_pos rfl
theorem am_row_cq {o1 o2 n : Nat} {sp dp k : Int} (hs : (gS G)[o2]? = some (22, n)) (h1 : 0 ≤ sp) (h2 : 0 ≤ dp) : (am_pic G μ).set o2 (gA G o2, .inl (gC G 2, n, .inl (va_cpy (fun j => Int32.ofInt (μ o1 j)) (fun j => Int32.ofInt (μ o2 j)) sp.toNat dp.toNat k.toNat))) = am_pic G (am_cq μ o1 o2 sp dp k) := by
  have e : va_cpy (fun j : Nat => Int32.ofInt (μ o1 j)) (fun j : Nat => Int32.ofInt (μ o2 j)) sp.toNat dp.toNat k.toNat = fun j : Nat => Int32.ofInt (am_cq μ o1 o2 sp dp k o2 j) := by
    funext j
    rw [am_cq_at]
    unfold va_cpy
    by_cases hc : dp.toNat ≤ j ∧ j < dp.toNat + k.toNat
    · rw [if_pos hc, if_pos (by omega)]
      show Int32.ofInt (μ o1 ((sp.toNat + (j - dp.toNat) : Nat) : Int)) = _
      rw [show ((sp.toNat + (j - dp.toNat) : Nat) : Int) = (j : Int) - dp + sp by omega]
    · rw [if_neg hc, if_neg (by omega)]
  rw [e, ← am_el_row (G := G) (μ := am_cq μ o1 o2 sp dp k) (t := 2) hs (by decide)]
  refine am_pic_set (fun o' h b => ?_)
  show am_cq μ o1 o2 sp dp k o' b = _
  rw [am_cq_o (by omega)]
def g_Cc (M : AMeth) (pc : Nat) : Prop := ∃ idx : Nat, decode M.2.1 pc = .ok (.invokestatic idx, 3) ∧ Cond.methodLink M.1.cls idx arraycopyName ∈ TW ∧ Cond.native arraycopyName ∈ TW ∧ Cond.static arraycopyName ∈ TW ∧ Cond.initialized "java/lang/System" ∈ TW
theorem cq_clampN {z : Int} (h0 : 0 ≤ z) (h1 : z < 2147483648) : ¬ Int32.ofInt z < 0 ∧ (Int32.ofInt z).toNatClampNeg = z.toNat := by
  have hr : R32 z := ⟨by omega, by omega⟩
  refine ⟨?_, ?_⟩
  · rw [am_0, am_lt hr R32.zero]
    omega
  · show (Int32.ofInt z).toInt.toNat = _
    rw [hr.eq]
theorem fits_b {a : Int} (h : -128 ≤ a ∧ a ≤ 127) : fits .byte (.int (Int32.ofInt a)) = true := by
  have hr : R32 a := ⟨by omega, by omega⟩
  show (decide (Int32.ofInt (-128) ≤ Int32.ofInt a) && decide (Int32.ofInt a ≤ Int32.ofInt 127)) = true
  rw [Bool.and_eq_true, decide_eq_true_iff, decide_eq_true_iff, am_le ⟨by decide, by decide⟩ hr, am_le hr ⟨by decide, by decide⟩]
  exact h
theorem x_copyB {o1 o2 n1 n2 : Nat} {z1 z2 sp dp k : Int} (hf : g_Cc M pc) (hR : 1 ≤ K.1.frames ∧ 60 ≤ K.1.locals) (ho1 : z1 = (o1 : Int)) (ho2 : z2 = (o2 : Int)) (hs1 : (gS G)[o1]? = some (22, n1)) (hs2 : (gS G)[o2]? = some (22, n2)) (hn : n1 < 2147483648 ∧ n2 < 2147483648) (h1 : 0 ≤ sp ∧ 0 ≤ dp ∧ 0 ≤ k) (h4 : sp + k ≤ n1 ∧ dp + k ≤ n2) (hb : ∀ i : Int, sp ≤ i → i < sp + k → -128 ≤ μ z1 i ∧ μ z1 i ≤ 127) (hcat : am_cs st ≤ 8)
    (kk : Gx K G M cs ss (pc + 3) ls st (am_cq μ z1 z2 sp dp k)) : Gx K G M cs ss pc ls ((0, k) :: (0, dp) :: (2, z2) :: (0, sp) :: (2, z1) :: st) μ := by
  subst ho1; subst ho2
  obtain ⟨idx, hd, w1, w2, w3, w4⟩ := hf
  intro p e s m args below meth c H locs lsA hI
  obtain ⟨hX, hK, hP, hD, hS, hE, hl⟩ := id hI
  have hts := hX.2.2.2.2.1
  have c1 := cq_clampN (z := sp) h1.1 (by omega)
  have c2 := cq_clampN (z := dp) h1.2.1 (by omega)
  have c3 := cq_clampN (z := k) h1.2.2 (by omega)
  rw [List.map_cons, List.map_cons, List.map_cons, List.map_cons, List.map_cons, am_ref_pos (o := (o1 : Int)) (by omega), am_ref_pos (o := (o2 : Int)) (by omega)]
  refine va_copyi (n := Int32.ofInt k) (dp := Int32.ofInt dp) (sp := Int32.ofInt sp) hX.1 hX.2.1 (by rw [hX.2.2.1]; exact hl.1.symm) hX.2.2.2.1 (hts _ w1) (hts _ w2) (hts _ w3) (hts _ w4) hK hP hD hS o1 o2 2 2 (am_pic_at hs1 (am_el_row (t := 2) hs1 (by decide))) (am_pic_at hs2 (am_el_row (t := 2) hs2 (by decide))) rfl rfl rfl
    c1.1 c2.1 c3.1 (by rw [c1.2, c3.2]; omega) (by rw [c2.2, c3.2]; omega) (fun i hi => fits_b ?_) hR.1 (by rw [am_cs_eq]; exact Nat.le_trans (Nat.add_le_add_right hcat _) (Nat.le_trans (by decide +kernel) hR.2)) hd (fun H1 locs1 hP1 hD1 hS1 => ?_)
  · rw [c3.2] at hi
    rw [c1.2]
    exact hb _ (by omega) (by omega)
  · rw [c1.2, c2.2, c3.2, am_row_cq hs2 h1.1 h1.2.1] at hP1 hD1
    exact kk p e s m args below meth c H1 locs1 lsA ⟨hX, hK, hP1, hD1, hS1, hE, hl⟩
end gxs3
section gxs5
variable {K : XKt} {G : AG} {M M2 : AMeth} {cs ss pc mc ms : Nat} {ls ls2 st rest as : List AV} {μ : Mu} {k n : Nat} {P : AG → Option AV → Mu → Prop} {C : String}
/-- a method of an object whose class is C -/
def g_Cw (M : AMeth) (pc : Nat) (C : String) (M2 : AMeth) (n : Nat) : Prop := ∃ idx : Nat, decode M.2.1 pc = .ok (.invokevirtual idx, 3) ∧ Cond.methodLink M.1.cls idx M2.1 ∈ TW ∧ Cond.instanceMethod M2.1 ∈ TW ∧ Cond.selects C M2.1 M2.1 ∈ TW ∧ am_Ok M2 n
theorem gx_recv {p : Program} {s : State} {m : MethodId} {args : Array Value} {meth : Method} {c : Code} {H : Heap} {locs : List Loc} {lsA : Array Slot} {o ci : Nat} {z : Int} (hI : gx_In K G M p s m args meth c H locs lsA ls μ) (ho : z = (o : Int)) (hs : (gS G)[o]? = some (ci, am_N ci)) (hc : (vwCl[ci]?).map (fun q => q.1) = some C) :
    (∃ cell : Cell, H[gA G z.toNat]? = some cell ∧ cell.vm.isStatics = false ∧ s.vm.findClass C = some cell.cls) ∧ ∃ cC, ClassAt s C cC := by
  obtain ⟨q, hq, hqc⟩ : ∃ q : vw_C, vwCl[ci]? = some q ∧ q.1 = C := by
    cases h : vwCl[ci]? with
    | none => rw [h] at hc; cases hc
    | some q => rw [h] at hc; exact ⟨q, rfl, Option.some.inj hc⟩
  have hzo : z.toNat = o := by omega
  have hrec := va_recv hI.2.1 hI.2.2.1 hq (am_pic_at (G := G) (μ := μ) hs (am_el_obj hs (am_cls ci q hq).2.2.2.2))
  rw [hqc] at hrec
  rw [hzo]
  obtain ⟨-, hfc, kC, hkC, hkind⟩ := hI.2.1.1 ci q hq
  rw [hqc] at hfc
  exact ⟨hrec, _, hfc, kC, hkC, hkind⟩
theorem x_callWX {o ci : Nat} {z : Int} (hf : g_Cw M pc C M2 n) (hR : g_Room K.1 M2) (hroom : cs + mc ≤ K.1.cells ∧ ss + ms ≤ K.1.slots) (hKA : gx_A K) (hw : wfm G μ)
    (hst : st = as.reverse ++ (2, z) :: rest) (ho : z = (o : Int)) (hs : (gS G)[o]? = some (ci, am_N ci)) (hc : (vwCl[ci]?).map (fun q => q.1) = some C) (hn : as.length = n) (hls : ls2 = am_args ((2, z) :: as) ++ List.replicate k (9, 0)) (hl2 : ls2.length = M2.2.2.1) (ht : am_tok as = true) (hcat : am_cs rest ≤ 8) (hol : lsok ((gS G).length : Int) ls) (hor : lsok ((gS G).length : Int) rest)
    (hcall : Gx (xK G M2 mc ms P) G M2 0 0 0 ls2 [] μ) (kk : ∀ (G' : AG) (μ' : Mu) (r : Option AV), P G' r μ' → Xt G G' → Gx K G' M (cs + mc) (ss + ms) (pc + 3) ls (r.toList ++ rest) μ') : Gx K G M cs ss pc ls st μ := by
  obtain ⟨idx, hd, hlink, hinst, hsel, hok⟩ := hf
  intro p e s m args below meth c H locs lsA hI
  have hX0 := hI.1
  have hl := hI.2.2.2.2.2.2
  have hts := hX0.2.2.2.2.1
  subst hst
  have hz : 0 ≤ z := by omega
  have hpre := gx_pre (as := (2, z) :: as) hKA Xt.rf hw hI
  rw [List.map_cons, am_ref_pos hz] at hpre
  have hM := gx_met (as := (2, z) :: as) hok hls hl2 (by simp [am_tok, ht]) hcall H.size
  refine gx_backX hKA hol hor hI (a := (Value.ref (gA G z.toNat) :: as.map (am_c G)).toArray) (va_runV (C := C) (As := as.map (am_c G)) (b := gA G z.toNat) (bytes := M2.2.1) (maxL := M2.2.2.1) (ret := M2.2.2.2.1) (own := M.1.cls) (index := idx) (Ts := TW) ⟨hX0.1, hX0.2.1, hX0.2.2.1, hX0.2.2.2.1, hts⟩ hM ⟨callB_of n hts (am_good (fun w h => am_ws_in hok w h)) rfl rfl rfl (hts _ hok.2.1) (hts _ hlink) hok.2.2.2 hR, hts _ hinst, hts _ hsel⟩ ⟨hpre.1, (gx_recv hI ho hs hc).1, hpre.2⟩ rfl (by rw [List.length_map, hn]) hl.1 ?_ (lv_room (by rw [am_cs_eq]; exact hcat)) hd hroom) (fun G' r μ' H1 locs1 hp hx hI1 => ?_)
  · show (as.reverse ++ (2, z) :: rest).map (am_c G) = _
    rw [List.map_append, List.map_reverse, List.map_cons, am_ref_pos hz]
  · have h9 := kk G' μ' r hp hx p e s m args below meth c H1 locs1 lsA hI1
    unfold gx_W at h9
    rw [hx.2.2.1] at h9
    exact h9
/-- a method of the superclass -/
def g_Cu (M : AMeth) (pc : Nat) (M2 : AMeth) (n : Nat) : Prop := ∃ idx : Nat, decode M.2.1 pc = .ok (.invokespecial idx, 3) ∧ Cond.methodLink M.1.cls idx M2.1 ∈ TW ∧ Cond.sameMethod M2.1.cls M2.1.cls M2.1.name M2.1.desc ∈ TW ∧ Cond.superclass M.1.cls M2.1.cls ∈ TW ∧ Cond.instanceMethod M2.1 ∈ TW ∧ M2.1.name ≠ "<init>" ∧ am_Ok M2 n
theorem x_callUX {o ci : Nat} {z : Int} (hf : g_Cu M pc M2 n) (hR : g_Room K.1 M2) (hroom : cs + mc ≤ K.1.cells ∧ ss + ms ≤ K.1.slots) (hKA : gx_A K) (hw : wfm G μ)
    (hst : st = as.reverse ++ (2, z) :: rest) (ho : z = (o : Int)) (hs : (gS G)[o]? = some (ci, am_N ci)) (hc : (vwCl[ci]?).map (fun q => q.1) = some C) (hn : as.length = n) (hls : ls2 = am_args ((2, z) :: as) ++ List.replicate k (9, 0)) (hl2 : ls2.length = M2.2.2.1) (ht : am_tok as = true) (hcat : am_cs rest ≤ 8) (hol : lsok ((gS G).length : Int) ls) (hor : lsok ((gS G).length : Int) rest)
    (hcall : Gx (xK G M2 mc ms P) G M2 0 0 0 ls2 [] μ) (kk : ∀ (G' : AG) (μ' : Mu) (r : Option AV), P G' r μ' → Xt G G' → Gx K G' M (cs + mc) (ss + ms) (pc + 3) ls (r.toList ++ rest) μ') : Gx K G M cs ss pc ls st μ := by
  obtain ⟨idx, hd, hlink, hsame, hsup, hinst, hnm, hok⟩ := hf
  intro p e s m args below meth c H locs lsA hI
  have hX0 := hI.1
  have hl := hI.2.2.2.2.2.2
  have hts := hX0.2.2.2.2.1
  subst hst
  have hz : 0 ≤ z := by omega
  have hpre := gx_pre (as := (2, z) :: as) hKA Xt.rf hw hI
  rw [List.map_cons, am_ref_pos hz] at hpre
  have hM := gx_met (as := (2, z) :: as) hok hls hl2 (by simp [am_tok, ht]) hcall H.size
  obtain ⟨hrec, cC, hat⟩ := gx_recv hI ho hs hc
  have hT : GoodIn TW (va_wsSU M.1.cls idx M2.1 (am_ws M2)) := by
    refine am_good (fun w h => ?_)
    unfold va_wsSU at h
    rcases List.mem_append.mp h with h | h
    · simp only [List.mem_cons, List.not_mem_nil, or_false] at h
      rcases h with rfl | rfl | rfl | rfl | rfl
      · exact hlink
      · exact hsame
      · exact hsup
      · exact hinst
      · exact hok.2.1
    · exact am_ws_in hok w h
  refine gx_backX hKA hol hor hI (a := (Value.ref (gA G z.toNat) :: as.map (am_c G)).toArray) (va_runSU (C := C) (cC := cC) (As := as.map (am_c G)) (b := gA G z.toNat) (bytes := M2.2.1) (maxL := M2.2.2.1) (ret := M2.2.2.2.1) (own := M.1.cls) (index := idx) (Ts := TW) hat ⟨hX0.1, hX0.2.1, hX0.2.2.1, hX0.2.2.2.1, hts⟩ hM (va_cwSU n hts hT rfl rfl rfl ⟨hnm, hok.2.2.2.2.2⟩ hR) ⟨hpre.1, hrec, hpre.2⟩ rfl (by rw [List.length_map, hn]) hl.1 ?_ (lv_room (by rw [am_cs_eq]; exact hcat)) hd hroom) (fun G' r μ' H1 locs1 hp hx hI1 => ?_)
  · show (as.reverse ++ (2, z) :: rest).map (am_c G) = _
    rw [List.map_append, List.map_reverse, List.map_cons, am_ref_pos hz]
  · have h9 := kk G' μ' r hp hx p e s m args below meth c H1 locs1 lsA hI1
    unfold gx_W at h9
    rw [hx.2.2.1] at h9
    exact h9
/-- a method of the superclass that the object's class has written anew -/
def g_Co (M : AMeth) (pc : Nat) (C : String) (x : MethodName) (M2 : AMeth) (n : Nat) : Prop := ∃ idx : Nat, decode M.2.1 pc = .ok (.invokevirtual idx, 3) ∧ Cond.methodLink M.1.cls idx x ∈ TW ∧ Cond.sameMethod x.cls x.cls x.name x.desc ∈ TW ∧ Cond.instanceMethod x ∈ TW ∧ Cond.selects C x M2.1 ∈ TW ∧ Cond.instanceMethod M2.1 ∈ TW ∧ am_Ok M2 n ∧ (x.cls ≠ "java/lang/invoke/MethodHandle" ∧ x.cls ≠ "java/lang/invoke/VarHandle" ∧ (parseMethodDescriptor x.desc).map (fun d => d.parameters.length) = some n) ∧ ∃ b0 m0 r0, Cond.code x b0 m0 r0 ∈ TW
theorem x_callOX {o ci : Nat} {z : Int} {x : MethodName} (hf : g_Co M pc C x M2 n) (hR : g_Room K.1 M2) (hroom : cs + mc ≤ K.1.cells ∧ ss + ms ≤ K.1.slots) (hKA : gx_A K) (hw : wfm G μ)
    (hst : st = as.reverse ++ (2, z) :: rest) (ho : z = (o : Int)) (hs : (gS G)[o]? = some (ci, am_N ci)) (hc : (vwCl[ci]?).map (fun q => q.1) = some C) (hn : as.length = n) (hls : ls2 = am_args ((2, z) :: as) ++ List.replicate k (9, 0)) (hl2 : ls2.length = M2.2.2.1) (ht : am_tok as = true) (hcat : am_cs rest ≤ 8) (hol : lsok ((gS G).length : Int) ls) (hor : lsok ((gS G).length : Int) rest)
    (hcall : Gx (xK G M2 mc ms P) G M2 0 0 0 ls2 [] μ) (kk : ∀ (G' : AG) (μ' : Mu) (r : Option AV), P G' r μ' → Xt G G' → Gx K G' M (cs + mc) (ss + ms) (pc + 3) ls (r.toList ++ rest) μ') : Gx K G M cs ss pc ls st μ := by
  obtain ⟨idx, hd, hlink, hsame, hinx, hsel, hinst, hok, hdx, b0, m0, r0, hcx⟩ := hf
  intro p e s m args below meth c H locs lsA hI
  have hX0 := hI.1
  have hl := hI.2.2.2.2.2.2
  have hts := hX0.2.2.2.2.1
  subst hst
  have hz : 0 ≤ z := by omega
  have hpre := gx_pre (as := (2, z) :: as) hKA Xt.rf hw hI
  rw [List.map_cons, am_ref_pos hz] at hpre
  have hM := gx_met (as := (2, z) :: as) hok hls hl2 (by simp [am_tok, ht]) hcall H.size
  have hT : GoodIn TW (va_wsO M.1.cls idx C x.cls x M2.1 (am_ws M2)) := by
    refine am_good (fun w h => ?_)
    unfold va_wsO at h
    rcases List.mem_append.mp h with h | h
    · simp only [List.mem_cons, List.not_mem_nil, or_false] at h
      rcases h with rfl | rfl | rfl | rfl | rfl | rfl
      · exact hlink
      · exact hsame
      · exact hinx
      · exact hsel
      · exact hinst
      · exact hok.2.1
    · exact am_ws_in hok w h
  refine gx_backX hKA hol hor hI (a := (Value.ref (gA G z.toNat) :: as.map (am_c G)).toArray) (va_runU (C := C) (owner := x.cls) (x := x) (As := as.map (am_c G)) (b := gA G z.toNat) (bytes := M2.2.1) (maxL := M2.2.2.1) (ret := M2.2.2.2.1) (own := M.1.cls) (index := idx) (Ts := TW) ⟨hX0.1, hX0.2.1, hX0.2.2.1, hX0.2.2.2.1, hts⟩ hM (va_cwO n hts hT rfl rfl rfl hcx hdx hR) ⟨hpre.1, (gx_recv hI ho hs hc).1, hpre.2⟩ rfl (by rw [List.length_map, hn]) hl.1 ?_ (lv_room (by rw [am_cs_eq]; exact hcat)) hd hroom) (fun G' r μ' H1 locs1 hp hx hI1 => ?_)
  · show (as.reverse ++ (2, z) :: rest).map (am_c G) = _
    rw [List.map_append, List.map_reverse, List.map_cons, am_ref_pos hz]
  · have h9 := kk G' μ' r hp hx p e s m args below meth c H1 locs1 lsA hI1
    unfold gx_W at h9
    rw [hx.2.2.1] at h9
    exact h9
end gxs5
section gxs6
variable {K : XKt} {G G2 : AG} {M M2 : AMeth} {cs ss pc mc ms : Nat} {ls ls2 st rest as : List AV} {μ : Mu} {k n : Nat} {P : AG → Option AV → Mu → Prop} {C : String}
/-- ends -/
theorem x_vretX (hd : decode M.2.1 pc = .ok (.return_, 1)) (hr : M.2.2.2.1 = none) (hm : cs ≤ mc ∧ ss ≤ ms) (hX : Xt G G2) (h : P G2 none μ) : Gx (xK G M mc ms P) G2 M cs ss pc ls [] μ := by
  intro p e s m args below meth c H locs lsA hI
  refine W.widen hm.1 hm.2 ?_
  refine W.vret hI.1.1 hI.1.2.1 (by rw [hI.1.2.2.2.2.2.1]; exact hr) (fun t ht hW => gx_end hX h hI ht hW) (fun q hq => hI.2.2.2.2.1.2.2 q hq) hd (hlocks := hI.1.2.2.2.2.2.2)
theorem x_nretX {a : Int} {ty : FieldType} (hd : decode M.2.1 pc = .ok (.ireturn, 1)) (hr : M.2.2.2.1 = some ty) (hn : narrow ty (.int (Int32.ofInt a)) = .int (Int32.ofInt a)) (hm : cs ≤ mc ∧ ss ≤ ms) (hX : Xt G G2) (h : P G2 (some (0, a)) μ) : Gx (xK G M mc ms P) G2 M cs ss pc ls [(0, a)] μ := by
  intro p e s m args below meth c H locs lsA hI
  refine W.widen hm.1 hm.2 ?_
  refine W.zret hI.1.1 hI.1.2.1 (by rw [hI.1.2.2.2.2.2.1]; exact hr) hn (fun t ht hW => gx_end hX h hI ht hW) (fun q hq => hI.2.2.2.2.1.2.2 q hq) hd (hlocks := hI.1.2.2.2.2.2.2)
/-- strings are of one byte a character -/
theorem x_getsW {idx : Nat} (hd : decode M.2.1 pc = .ok (.getstatic idx, 3)) (hw : Cond.fieldLink M.1.cls idx "java/lang/String" "COMPACT_STRINGS" "Z" ∈ TW) (kk : Gx K G M cs ss (pc + 3) ls ((0, 1) :: st) μ) : Gx K G M cs ss pc ls st μ :=
  Gx.stk (fun _ _ _ _ _ _ _ _ _ _ _ _ hx hb hI k => va_gets (v := .int 1) hx hb hI.2.2.2.2.2.1.1.2.1 hI.2.2.2.2.1 hI.1.2.2.2.1 (hI.1.2.2.2.2.1 _ hw) (fun _ h => h) hd k) kk
end gxs6
