/-! ===== Calls ===== -/
/-- a method that may be called: its code stands in the tables, its name is plain -/
def am_Ok (M : AMeth) (n : Nat) : Prop := Cond.code M.1 M.2.1 M.2.2.1 M.2.2.2.1 ∈ TW ∧ Cond.initialized M.1.cls ∈ TW ∧ plainFor M.1 = true ∧ (M.1.cls ≠ "java/lang/invoke/MethodHandle" ∧ M.1.cls ≠ "java/lang/invoke/VarHandle" ∧ (parseMethodDescriptor M.1.desc).map (fun d => d.parameters.length) = some n)
def am_Room (M M2 : AMeth) : Prop := M2.2.2.2.2.1 + 1 ≤ M.2.2.2.2.1 ∧ 8 + (M2.2.2.1 + 11) + M2.2.2.2.2.2 ≤ M.2.2.2.2.2
def am_Cv (M : AMeth) (pc : Nat) (M2 : AMeth) (n : Nat) : Prop := ∃ idx : Nat, decode M.2.1 pc = .ok (.invokevirtual idx, 3) ∧ Cond.methodLink M.1.cls idx M2.1 ∈ TW ∧ Cond.instanceMethod M2.1 ∈ TW ∧ Cond.selects M2.1.cls M2.1 M2.1 ∈ TW ∧ am_Ok M2 n ∧ am_Room M M2
def am_Cs (M : AMeth) (pc : Nat) (M2 : AMeth) (n : Nat) : Prop := ∃ idx : Nat, decode M.2.1 pc = .ok (.invokestatic idx, 3) ∧ Cond.methodLink M.1.cls idx M2.1 ∈ TW ∧ Cond.static M2.1 ∈ TW ∧ am_Ok M2 n ∧ am_Room M M2
def am_tok : List AV → Bool
  | [] => true
  | v :: vs => Nat.blt v.1 9 && am_tok vs
theorem am_tok_spec : ∀ {as : List AV}, am_tok as = true → ∀ v ∈ as, v.1 < 9 := by
  intro as
  induction as with
  | nil => intro _ v h; cases h
  | cons a as ih =>
    intro h v hv
    simp only [am_tok, Bool.and_eq_true] at h
    rcases List.mem_cons.mp hv with rfl | hv
    · simpa [Nat.blt_eq] using h.1
    · exact ih h.2 v hv
def am_cs : List AV → Nat
  | [] => 0
  | v :: vs => (if v.1 = 1 then 2 else 1) + am_cs vs
theorem am_cs_eq {G : AG} (st : List AV) : ((st.map (am_c G)).map fun v => v.category).sum = am_cs st := by
  induction st with
  | nil => rfl
  | cons v vs ih => simp only [List.map_cons, List.sum_cons, am_cat, am_cs, ih]
theorem am_sl_len {G : AG} (as : List AV) : (lg_sl (as.map (am_c G))).length = (am_args as).length := by
  induction as with
  | nil => rfl
  | cons v vs ih =>
    unfold lg_sl at ih ⊢
    rw [List.map_cons, List.flatMap_cons, List.length_append, ih, am_cat]
    have h9 : am_args (v :: vs) = if v.1 = 1 then v :: (9, 0) :: am_args vs else v :: am_args vs := rfl
    rw [h9]
    by_cases h : v.1 = 1
    · simp [h]; omega
    · simp [h]; omega
section EvCalls
variable {G : AG} {M M2 : AMeth} {pc : Nat} {ls ls2 st rest as : List AV} {μ μ1 μ' : Mu} {r r1 : Option AV} {k n : Nat}
theorem am_good {ws : List Cond} (h : ∀ w ∈ ws, w ∈ TW) : GoodIn TW ws := fun w hw => tw_good w (h w hw)
theorem am_ws_in {n : Nat} (h : am_Ok M2 n) : ∀ w ∈ am_ws M2, w ∈ TW := by
  intro w hw
  rcases List.mem_cons.mp hw with rfl | hw
  · exact h.1
  · exact hw
theorem am_met {n : Nat} (hok : am_Ok M2 n) (hls : ls2 = am_args as ++ List.replicate k (9, 0)) (hl2 : ls2.length = M2.2.2.1) (ht : am_tok as = true) (hcall : Ev G M2 0 ls2 [] μ r1 μ1) (sz : Nat) :
    Met (gL G) M2.1 (am_ws M2) (am_R M2) (am_Pc G sz as μ) (am_Q G sz r1 μ1) 0 0 (am_A G sz) := by
  subst hls
  refine Ev.met hcall hok.2.2.1 ?_ (am_tok_spec ht) sz
  rw [am_sl_len, ← hl2, List.length_append]
  omega
theorem e_callS (hf : am_Cs M pc M2 n) (hst : st = as.reverse ++ rest) (hn : as.length = n) (hls : ls2 = am_args as ++ List.replicate k (9, 0)) (hl2 : ls2.length = M2.2.2.1) (ht : am_tok as = true) (hcat : am_cs rest ≤ 8)
    (hcall : Ev G M2 0 ls2 [] μ r1 μ1) (kk : Ev G M (pc + 3) ls (r1.toList ++ rest) μ1 r μ') : Ev G M pc ls st μ r μ' := by
  obtain ⟨idx, hd, hlink, hstat, hok, hroom⟩ := hf
  intro p e s m args below meth c H locs lsA hI
  obtain ⟨hX, hK, hP, hD, hS, hE, hl⟩ := id hI
  subst hst
  refine am_back hI (va_runS (As := as.map (am_c G)) (rest := rest.map (am_c G)) ⟨hX.1, hX.2.1, hX.2.2.1, hX.2.2.2.1, hX.2.2.2.2.1⟩ (am_met hok hls hl2 ht hcall H.size)
    (va_cwS n hX.2.2.2.2.1 (am_good ?_) rfl rfl rfl hok.2.2.2 hroom) (am_pre_call hI) rfl (by rw [List.length_map, hn]) hl.1 ?_ (lv_room (by rw [am_cs_eq]; exact hcat)) hd ⟨Nat.zero_le _, Nat.zero_le _⟩) (fun H1 locs1 hI1 => ?_)
  · intro w hw
    rcases List.mem_append.mp hw with h | h
    · simp only [List.mem_cons, List.not_mem_nil, or_false] at h
      rcases h with rfl | rfl | rfl
      · exact hlink
      · exact hstat
      · exact hok.2.1
    · exact am_ws_in hok w h
  · show (as.reverse ++ rest).map (am_c G) = _
    rw [List.map_append, List.map_reverse]
  · have h9 := kk p e s m args below meth c H1 locs1 lsA hI1
    rw [List.map_append] at h9
    cases r1 <;> exact h9
theorem e_callV {o ci : Nat} {z : Int} (hf : am_Cv M pc M2 n) (hst : st = as.reverse ++ (2, z) :: rest) (ho : z = (o : Int)) (hs : (gS G)[o]? = some (ci, am_N ci)) (hc : (vwCl[ci]?).map (fun q => q.1) = some M2.1.cls) (hn : as.length = n) (hls : ls2 = am_args ((2, z) :: as) ++ List.replicate k (9, 0)) (hl2 : ls2.length = M2.2.2.1) (ht : am_tok as = true) (hcat : am_cs rest ≤ 8)
    (hcall : Ev G M2 0 ls2 [] μ r1 μ1) (kk : Ev G M (pc + 3) ls (r1.toList ++ rest) μ1 r μ') : Ev G M pc ls st μ r μ' := by
  obtain ⟨idx, hd, hlink, hinst, hsel, hok, hroom⟩ := hf
  intro p e s m args below meth c H locs lsA hI
  obtain ⟨hX, hK, hP, hD, hS, hE, hl⟩ := id hI
  subst hst
  have hz : 0 ≤ z := by omega
  have hzo : z.toNat = o := by omega
  obtain ⟨q, hq, hqc⟩ : ∃ q : vw_C, vwCl[ci]? = some q ∧ q.1 = M2.1.cls := by
    cases h : vwCl[ci]? with
    | none => rw [h] at hc; cases hc
    | some q => rw [h] at hc; exact ⟨q, rfl, Option.some.inj hc⟩
  have hrec := va_recv hK hP hq (am_pic_at (G := G) (μ := μ) hs (am_el_obj hs (am_cls ci q hq).2.2.2.2))
  rw [hqc] at hrec
  have hpre := am_pre_call (as := (2, z) :: as) hI
  rw [List.map_cons, am_ref_pos hz, hzo] at hpre
  refine am_back hI (va_runV (As := as.map (am_c G)) (rest := rest.map (am_c G)) ⟨hX.1, hX.2.1, hX.2.2.1, hX.2.2.2.1, hX.2.2.2.2.1⟩ (am_met (as := (2, z) :: as) hok hls hl2 (by simp [am_tok, ht]) hcall H.size)
    (cwV (C := M2.1.cls) n hX.2.2.2.2.1 (am_good ?_) rfl rfl rfl ⟨rfl, hok.2.2.2⟩ hroom) ⟨hpre.1, hrec, hpre.2⟩ rfl (by rw [List.length_map, hn]) hl.1 ?_ (lv_room (by rw [am_cs_eq]; exact hcat)) hd ⟨Nat.zero_le _, Nat.zero_le _⟩) (fun H1 locs1 hI1 => ?_)
  · intro w hw
    rcases List.mem_append.mp hw with h | h
    · simp only [List.mem_cons, List.not_mem_nil, or_false] at h
      rcases h with rfl | rfl | rfl | rfl
      · exact hlink
      · exact hinst
      · exact hsel
      · exact hok.2.1
    · exact am_ws_in hok w h
  · show (as.reverse ++ (2, z) :: rest).map (am_c G) = _
    rw [List.map_append, List.map_reverse, List.map_cons, am_ref_pos hz, hzo]
  · have h9 := kk p e s m args below meth c H1 locs1 lsA hI1
    rw [List.map_append] at h9
    cases r1 <;> exact h9
/-- calls of java.lang.Math -/
def am_Cm (M : AMeth) (pc : Nat) (y : MethodName) (code : ByteArray) (nl : Nat) (ret : FieldType) : Prop := ∃ idx : Nat, decode M.2.1 pc = .ok (.invokestatic idx, 3) ∧ Cond.methodLink M.1.cls idx y ∈ TW ∧ Cond.static y ∈ TW ∧ Cond.initialized "java/lang/Math" ∈ TW ∧ Cond.code y code nl (some ret) ∈ TW ∧ 1 ≤ M.2.2.2.2.1 ∧ 30 ≤ M.2.2.2.2.2
theorem e_max {a b : Int} (hf : am_Cm M pc Lib.Math.max.name Lib.Math.max.code 2 .int) (ha : R32 a) (hb : R32 b) (hcat : am_cs st ≤ 8) (kk : Ev G M (pc + 3) ls ((0, max a b) :: st) μ r μ') : Ev G M pc ls ((0, b) :: (0, a) :: st) μ r μ' := by
  obtain ⟨idx, hd, h1, h2, h3, h4, h5, h6⟩ := hf
  intro p e s m args below meth c H locs lsA hI
  obtain ⟨hX, hK, hP, hD, hS, hE, hl⟩ := id hI
  have hts := hX.2.2.2.2.1
  refine va_mmax hX.1 hX.2.1 (by rw [hX.2.2.1]; exact hl.1.symm) hX.2.2.2.1 (hts _ h1) (hts _ h2) (hts _ h3) (hts _ h4) h5 (by rw [am_cs_eq]; exact Nat.le_trans (Nat.add_le_add_right hcat 13) (Nat.le_trans (by decide) h6)) (Nat.zero_le _) (Nat.zero_le _) hd ?_
  have h9 : (if Int32.ofInt a < Int32.ofInt b then Int32.ofInt b else Int32.ofInt a) = Int32.ofInt (max a b) := by
    simp only [am_lt ha hb]
    split
    · rw [Int.max_eq_right (by omega)]
    · rw [Int.max_eq_left (by omega)]
  rw [h9]
  exact kk p e s m args below meth c H locs lsA hI
theorem e_min {a b : Int} (hf : am_Cm M pc Lib.Math.min.name Lib.Math.min.code 2 .int) (ha : R32 a) (hb : R32 b) (hcat : am_cs st ≤ 8) (kk : Ev G M (pc + 3) ls ((0, min a b) :: st) μ r μ') : Ev G M pc ls ((0, b) :: (0, a) :: st) μ r μ' := by
  obtain ⟨idx, hd, h1, h2, h3, h4, h5, h6⟩ := hf
  intro p e s m args below meth c H locs lsA hI
  obtain ⟨hX, hK, hP, hD, hS, hE, hl⟩ := id hI
  have hts := hX.2.2.2.2.1
  refine va_mmin hX.1 hX.2.1 (by rw [hX.2.2.1]; exact hl.1.symm) hX.2.2.2.1 (hts _ h1) (hts _ h2) (hts _ h3) (hts _ h4) h5 (by rw [am_cs_eq]; exact Nat.le_trans (Nat.add_le_add_right hcat 13) (Nat.le_trans (by decide) h6)) (Nat.zero_le _) (Nat.zero_le _) hd ?_
  have h9 : (if Int32.ofInt b < Int32.ofInt a then Int32.ofInt b else Int32.ofInt a) = Int32.ofInt (min a b) := by
    simp only [am_lt hb ha]
    split
    · rw [Int.min_eq_right (by omega)]
    · rw [Int.min_eq_left (by omega)]
  rw [h9]
  exact kk p e s m args below meth c H locs lsA hI
theorem e_abs {a : Int} (hf : am_Cm M pc Lib.Math.abs.name Lib.Math.abs.code 1 .int) (ha : R32 a) (hcat : am_cs st ≤ 8) (kk : Ev G M (pc + 3) ls ((0, if 0 ≤ a then a else -a) :: st) μ r μ') : Ev G M pc ls ((0, a) :: st) μ r μ' := by
  obtain ⟨idx, hd, h1, h2, h3, h4, h5, h6⟩ := hf
  intro p e s m args below meth c H locs lsA hI
  obtain ⟨hX, hK, hP, hD, hS, hE, hl⟩ := id hI
  have hts := hX.2.2.2.2.1
  refine va_mabs hX.1 hX.2.1 (by rw [hX.2.2.1]; exact hl.1.symm) hX.2.2.2.1 (hts _ h1) (hts _ h2) (hts _ h3) (hts _ h4) h5 (by rw [am_cs_eq]; exact Nat.le_trans (Nat.add_le_add_right hcat 13) (Nat.le_trans (by decide) h6)) (Nat.zero_le _) (Nat.zero_le _) hd ?_
  have h9 : (if 0 ≤ Int32.ofInt a then Int32.ofInt a else 0 - Int32.ofInt a) = Int32.ofInt (if 0 ≤ a then a else -a) := by
    simp only [am_0, am_le R32.zero ha]
    split
    · rfl
    · rw [← Int32.ofInt_sub, Int.zero_sub]
  rw [h9]
  exact kk p e s m args below meth c H locs lsA hI
theorem e_minL {a b : Int} (hf : am_Cm M pc Lib.MathLoose.min_long.x Lib.MathLoose.min_long.code 4 .long) (ha : R64 a) (hb : R64 b) (hcat : am_cs st ≤ 8) (kk : Ev G M (pc + 3) ls ((1, min a b) :: st) μ r μ') : Ev G M pc ls ((1, b) :: (1, a) :: st) μ r μ' := by
  obtain ⟨idx, hd, h1, h2, h3, h4, h5, h6⟩ := hf
  intro p e s m args below meth c H locs lsA hI
  obtain ⟨hX, hK, hP, hD, hS, hE, hl⟩ := id hI
  have hts := hX.2.2.2.2.1
  refine va_mmin_long hX.1 hX.2.1 (by rw [hX.2.2.1]; exact hl.1.symm) hX.2.2.2.1 (hts _ h1) (hts _ h2) (hts _ h3) (hts _ h4) h5 (by rw [am_cs_eq]; exact Nat.le_trans (Nat.add_le_add_right hcat 15) (Nat.le_trans (by decide) h6)) (Nat.zero_le _) (Nat.zero_le _) hd ?_
  have h9 : (if Int64.ofInt b < Int64.ofInt a then Int64.ofInt b else Int64.ofInt a) = Int64.ofInt (min a b) := by
    simp only [Int64.lt_iff_toInt_lt, ha.eq, hb.eq]
    split
    · rw [Int.min_eq_right (by omega)]
    · rw [Int.min_eq_left (by omega)]
  rw [h9]
  exact kk p e s m args below meth c H locs lsA hI
theorem e_callS1 {t : Nat} {x : Int} (hf : am_Cs M pc M2 n) (hst : st = as.reverse ++ rest) (hn : as.length = n) (hls : ls2 = am_args as ++ List.replicate k (9, 0)) (hl2 : ls2.length = M2.2.2.1) (ht : am_tok as = true) (hcat : am_cs rest ≤ 8)
    (hcall : Ev G M2 0 ls2 [] μ (some (t, x)) μ1) (kk : Ev G M (pc + 3) ls ((t, x) :: rest) μ1 r μ') : Ev G M pc ls st μ r μ' := e_callS hf hst hn hls hl2 ht hcat hcall kk
theorem e_callS0 (hf : am_Cs M pc M2 n) (hst : st = as.reverse ++ rest) (hn : as.length = n) (hls : ls2 = am_args as ++ List.replicate k (9, 0)) (hl2 : ls2.length = M2.2.2.1) (ht : am_tok as = true) (hcat : am_cs rest ≤ 8)
    (hcall : Ev G M2 0 ls2 [] μ none μ1) (kk : Ev G M (pc + 3) ls rest μ1 r μ') : Ev G M pc ls st μ r μ' := e_callS hf hst hn hls hl2 ht hcat hcall kk
theorem e_callV1 {o ci t : Nat} {z x : Int} (hf : am_Cv M pc M2 n) (hst : st = as.reverse ++ (2, z) :: rest) (ho : z = (o : Int)) (hs : (gS G)[o]? = some (ci, am_N ci)) (hc : (vwCl[ci]?).map (fun q => q.1) = some M2.1.cls) (hn : as.length = n) (hls : ls2 = am_args ((2, z) :: as) ++ List.replicate k (9, 0)) (hl2 : ls2.length = M2.2.2.1) (ht : am_tok as = true) (hcat : am_cs rest ≤ 8)
    (hcall : Ev G M2 0 ls2 [] μ (some (t, x)) μ1) (kk : Ev G M (pc + 3) ls ((t, x) :: rest) μ1 r μ') : Ev G M pc ls st μ r μ' := e_callV hf hst ho hs hc hn hls hl2 ht hcat hcall kk
theorem e_callV0 {o ci : Nat} {z : Int} (hf : am_Cv M pc M2 n) (hst : st = as.reverse ++ (2, z) :: rest) (ho : z = (o : Int)) (hs : (gS G)[o]? = some (ci, am_N ci)) (hc : (vwCl[ci]?).map (fun q => q.1) = some M2.1.cls) (hn : as.length = n) (hls : ls2 = am_args ((2, z) :: as) ++ List.replicate k (9, 0)) (hl2 : ls2.length = M2.2.2.1) (ht : am_tok as = true) (hcat : am_cs rest ≤ 8)
    (hcall : Ev G M2 0 ls2 [] μ none μ1) (kk : Ev G M (pc + 3) ls rest μ1 r μ') : Ev G M pc ls st μ r μ' := e_callV hf hst ho hs hc hn hls hl2 ht hcat hcall kk
end EvCalls
