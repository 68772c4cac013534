/-! ===== The same machine in any room, at any end: for the law's frames, and those that throw ===== -/
/-- a frame of M: from every heap that holds the world it goes on to Q -/
def Gv (G : AG) (M : AMeth) (R : Room) (p : Program) (e : Env) (s : State) (m : MethodId) (args : Array Value) (below : List Frame) (meth : Method) (c : Code) (Q : State → Prop) (cells slots : Nat) (pc : Nat) (ls st : List AV) (μ : Mu) : Prop :=
  ∀ (H : Heap) (locs : List Loc) (lsA : Array Slot), am_In G M p s m args meth c H locs lsA ls μ → W p (gL G) e R s m args below meth c H locs cells slots Q (F0 m pc lsA (st.map (am_c G)))
section Gvs
variable {G : AG} {M M2 : AMeth} {R : Room} {p : Program} {e : Env} {s : State} {m : MethodId} {args : Array Value} {below : List Frame} {meth : Method} {c : Code} {Q : State → Prop} {cells slots : Nat} {pc : Nat} {ls ls2 st rest as : List AV} {μ μ1 : Mu} {k n : Nat} {r1 : Option AV}
theorem g_iconst {n : Int} (hd : decode M.2.1 pc = .ok (.iconst n, 1)) (kk : Gv G M R p e s m args below meth c Q cells slots (pc + 1) ls ((0, n) :: st) μ) : Gv G M R p e s m args below meth c Q cells slots pc ls st μ :=
  fun H locs lsA hI => lv_iconst hI.1.1 hI.1.2.1 hd rfl (kk H locs lsA hI)
theorem g_bipush {n : Int} (hd : decode M.2.1 pc = .ok (.bipush n, 2)) (hn : (Int8.ofInt n).toInt32 = Int32.ofInt n) (kk : Gv G M R p e s m args below meth c Q cells slots (pc + 2) ls ((0, n) :: st) μ) : Gv G M R p e s m args below meth c Q cells slots pc ls st μ :=
  fun H locs lsA hI => lv_bipush hI.1.1 hI.1.2.1 hd hn (kk H locs lsA hI)
theorem g_iload_n {k : Fin 4} {i : Nat} {x : Int} (hd : decode M.2.1 pc = .ok (.iload_n k, 1)) (hi : (k : Nat) = i) (hl : ls[i]? = some (0, x)) (kk : Gv G M R p e s m args below meth c Q cells slots (pc + 1) ls ((0, x) :: st) μ) : Gv G M R p e s m args below meth c Q cells slots pc ls st μ :=
  fun H locs lsA hI => lv_iload_n hI.1.1 hI.1.2.1 hd hi (am_loc hI.2.2.2.2.2.2 hl (Nat.le_of_ble_eq_true rfl)) (kk H locs lsA hI)
theorem g_iload {i : Nat} {x : Int} (hd : decode M.2.1 pc = .ok (.iload i, 2)) (hl : ls[i]? = some (0, x)) (kk : Gv G M R p e s m args below meth c Q cells slots (pc + 2) ls ((0, x) :: st) μ) : Gv G M R p e s m args below meth c Q cells slots pc ls st μ :=
  fun H locs lsA hI => lv_iload hI.1.1 hI.1.2.1 hd (am_loc hI.2.2.2.2.2.2 hl (Nat.le_of_ble_eq_true rfl)) (kk H locs lsA hI)
theorem g_aload_n {k : Fin 4} {i : Nat} {x : Int} (hd : decode M.2.1 pc = .ok (.aload_n k, 1)) (hi : (k : Nat) = i) (hl : ls[i]? = some (2, x)) (h0 : 0 ≤ x) (kk : Gv G M R p e s m args below meth c Q cells slots (pc + 1) ls ((2, x) :: st) μ) : Gv G M R p e s m args below meth c Q cells slots pc ls st μ :=
  fun H locs lsA hI => lv_aload_n hI.1.1 hI.1.2.1 hd hi (by rw [← am_ref_pos h0]; exact am_loc hI.2.2.2.2.2.2 hl (Nat.le_of_ble_eq_true rfl)) (by rw [← am_ref_pos h0]; exact kk H locs lsA hI)
theorem g_aload_nS {k : Fin 4} {i : Nat} {x : Int} (hd : decode M.2.1 pc = .ok (.aload_n k, 1)) (hi : (k : Nat) = i) (hl : ls[i]? = some (3, x)) (kk : Gv G M R p e s m args below meth c Q cells slots (pc + 1) ls ((3, x) :: st) μ) : Gv G M R p e s m args below meth c Q cells slots pc ls st μ :=
  fun H locs lsA hI => lv_aload_n hI.1.1 hI.1.2.1 hd hi (am_loc hI.2.2.2.2.2.2 hl (Nat.le_of_ble_eq_true rfl)) (kk H locs lsA hI)
theorem g_istore {i : Nat} {x : Int} (hd : decode M.2.1 pc = .ok (.istore i, 2)) (hn : i < M.2.2.1) (hp : am_pre ls i = true) (kk : Gv G M R p e s m args below meth c Q cells slots (pc + 2) (ls.set i (0, x)) st μ) : Gv G M R p e s m args below meth c Q cells slots pc ls ((0, x) :: st) μ :=
  fun H locs lsA hI => lv_istore hI.1.1 hI.1.2.1 hd hI.2.2.2.2.2.2 hn rfl (fun ls' h' => kk H locs ls' ⟨hI.1, hI.2.1, hI.2.2.1, hI.2.2.2.1, hI.2.2.2.2.1, hI.2.2.2.2.2.1, lv_mono h' (am_l_set1 hp)⟩)
theorem g_iinc {i : Nat} {x n : Int} (hd : decode M.2.1 pc = .ok (.iinc i n, 3)) (hl : ls[i]? = some (0, x)) (hn : i < M.2.2.1) (hp : am_pre ls i = true) (kk : Gv G M R p e s m args below meth c Q cells slots (pc + 3) (ls.set i (0, x + n)) st μ) : Gv G M R p e s m args below meth c Q cells slots pc ls st μ := by
  intro H locs lsA hI
  have hm : (i, Value.int (Int32.ofInt x)) ∈ am_l G 0 ls := by
    have h9 := am_l_mem (G := G) (v := (0, x)) (Nat.le_of_ble_eq_true rfl) ls 0 i hl
    rw [Nat.zero_add] at h9
    exact h9
  obtain ⟨k0, hk0⟩ := List.mem_iff_getElem?.mp hm
  refine lv_iinc (v := Int32.ofInt (x + n)) hI.1.1 hI.1.2.1 hd hI.2.2.2.2.2.2 hk0 (by rw [Int32.ofInt_add]) hn rfl (fun ls' h' => kk H locs ls' ⟨hI.1, hI.2.1, hI.2.2.1, hI.2.2.2.1, hI.2.2.2.2.1, hI.2.2.2.2.2.1, lv_mono h' ?_⟩)
  exact am_l_set1 (v := (0, x + n)) hp
theorem g_iadd {a b : Int} (hd : decode M.2.1 pc = .ok (.iadd, 1)) (kk : Gv G M R p e s m args below meth c Q cells slots (pc + 1) ls ((0, a + b) :: st) μ) : Gv G M R p e s m args below meth c Q cells slots pc ls ((0, b) :: (0, a) :: st) μ :=
  fun H locs lsA hI => lv_iadd hI.1.1 hI.1.2.1 hd (by rw [← Int32.ofInt_add]; exact kk H locs lsA hI)
theorem g_isub {a b : Int} (hd : decode M.2.1 pc = .ok (.isub, 1)) (kk : Gv G M R p e s m args below meth c Q cells slots (pc + 1) ls ((0, a - b) :: st) μ) : Gv G M R p e s m args below meth c Q cells slots pc ls ((0, b) :: (0, a) :: st) μ :=
  fun H locs lsA hI => lv_isub hI.1.1 hI.1.2.1 hd (by rw [← Int32.ofInt_sub]; exact kk H locs lsA hI)
theorem g_iand {a b : Int} (hd : decode M.2.1 pc = .ok (.iand, 1)) (kk : Gv G M R p e s m args below meth c Q cells slots (pc + 1) ls ((0, am_iand a b) :: st) μ) : Gv G M R p e s m args below meth c Q cells slots pc ls ((0, b) :: (0, a) :: st) μ :=
  fun H locs lsA hI => lv_iand hI.1.1 hI.1.2.1 hd (by have h9 : Int32.ofInt (am_iand a b) = Int32.ofInt a &&& Int32.ofInt b := Int32.ofInt_toInt _; rw [← h9]; exact kk H locs lsA hI)
theorem g_i2l {a : Int} (hd : decode M.2.1 pc = .ok (.i2l, 1)) (ha : R32 a) (kk : Gv G M R p e s m args below meth c Q cells slots (pc + 1) ls ((1, a) :: st) μ) : Gv G M R p e s m args below meth c Q cells slots pc ls ((0, a) :: st) μ :=
  fun H locs lsA hI => lv_i2l (v := Int64.ofInt a) hI.1.1 hI.1.2.1 hd (by rw [← Int64.toInt_inj, Int32.toInt_toInt64, ha.eq, R64.eq ⟨by have := ha.1; omega, by have := ha.2; omega⟩]) (kk H locs lsA hI)
theorem g_lcmp {a b : Int} (hd : decode M.2.1 pc = .ok (.lcmp, 1)) (ha : R64 a) (hb0 : R64 b) (kk : Gv G M R p e s m args below meth c Q cells slots (pc + 1) ls ((0, am_cmp a b) :: st) μ) : Gv G M R p e s m args below meth c Q cells slots pc ls ((1, b) :: (1, a) :: st) μ :=
  fun H locs lsA hI => W.lcmp hI.1.1 hI.1.2.1 hd (by rw [am_cmp_eq ha hb0]; exact kk H locs lsA hI)
theorem g_goto {off : Int} {tgt : Nat} (hd : decode M.2.1 pc = .ok (.goto off, 3)) (ht : (pc : Int) + off = (tgt : Int)) (kk : Gv G M R p e s m args below meth c Q cells slots tgt ls st μ) : Gv G M R p e s m args below meth c Q cells slots pc ls st μ :=
  fun H locs lsA hI => lv_goto hI.1.1 hI.1.2.1 hd ht (kk H locs lsA hI)
theorem g_icmp_eq {a b off : Int} {tgt : Nat} (hd : decode M.2.1 pc = .ok (.if_icmp .eq off, 3)) (ht : (pc : Int) + off = (tgt : Int)) (h : a = b) (kt : Gv G M R p e s m args below meth c Q cells slots tgt ls st μ) : Gv G M R p e s m args below meth c Q cells slots pc ls ((0, b) :: (0, a) :: st) μ :=
  fun H locs lsA hI => lv_icmp_eq hI.1.1 hI.1.2.1 hd ht (fun _ => kt H locs lsA hI) (fun q => absurd (by rw [h]) q)
theorem g_icmp_gt {a b off : Int} {tgt : Nat} (hd : decode M.2.1 pc = .ok (.if_icmp .gt off, 3)) (ht : (pc : Int) + off = (tgt : Int)) (ha : R32 a) (hb0 : R32 b) (kt : b < a → Gv G M R p e s m args below meth c Q cells slots tgt ls st μ) (kf : a ≤ b → Gv G M R p e s m args below meth c Q cells slots (pc + 3) ls st μ) : Gv G M R p e s m args below meth c Q cells slots pc ls ((0, b) :: (0, a) :: st) μ :=
  fun H locs lsA hI => lv_icmp_gt hI.1.1 hI.1.2.1 hd ht (fun h => kt (am_br_gt ha hb0 h) H locs lsA hI) (fun h => kf (am_bn_gt ha hb0 h) H locs lsA hI)
theorem g_if_eq {a off : Int} {tgt : Nat} (hd : decode M.2.1 pc = .ok (.ifCond .eq off, 3)) (ht : (pc : Int) + off = (tgt : Int)) (ha : R32 a) (kt : a = 0 → Gv G M R p e s m args below meth c Q cells slots tgt ls st μ) (kf : ¬ a = 0 → Gv G M R p e s m args below meth c Q cells slots (pc + 3) ls st μ) : Gv G M R p e s m args below meth c Q cells slots pc ls ((0, a) :: st) μ :=
  fun H locs lsA hI => lv_if_eq hI.1.1 hI.1.2.1 hd ht (fun h => kt (am_br_eq ha R32.zero h) H locs lsA hI) (fun h => kf (am_bn_eq ha R32.zero h) H locs lsA hI)
theorem g_if_ne {a off : Int} {tgt : Nat} (hd : decode M.2.1 pc = .ok (.ifCond .ne off, 3)) (ht : (pc : Int) + off = (tgt : Int)) (ha : R32 a) (kt : ¬ a = 0 → Gv G M R p e s m args below meth c Q cells slots tgt ls st μ) (kf : a = 0 → Gv G M R p e s m args below meth c Q cells slots (pc + 3) ls st μ) : Gv G M R p e s m args below meth c Q cells slots pc ls ((0, a) :: st) μ :=
  fun H locs lsA hI => lv_if_ne hI.1.1 hI.1.2.1 hd ht (fun h => kt (am_br_ne ha R32.zero h) H locs lsA hI) (fun h => kf (am_bn_ne ha R32.zero h) H locs lsA hI)
theorem g_tableOut {a dflt lo hi : Int} {offs : Array Int} {len tgt : Nat} (hd : decode M.2.1 pc = .ok (.tableswitch dflt lo hi offs, len)) (ha : R32 a) (h : a < lo ∨ hi < a) (ht : (pc : Int) + dflt = (tgt : Int)) (kk : Gv G M R p e s m args below meth c Q cells slots tgt ls st μ) : Gv G M R p e s m args below meth c Q cells slots pc ls ((0, a) :: st) μ :=
  fun H locs lsA hI => lv_tableOut hI.1.1 hI.1.2.1 hd (by rw [ha.eq]; exact h) ht (kk H locs lsA hI)
theorem g_tableIn {a dflt lo hi off : Int} {offs : Array Int} {len tgt : Nat} (hd : decode M.2.1 pc = .ok (.tableswitch dflt lo hi offs, len)) (ha : R32 a) (h1 : ¬ a < lo) (h2 : ¬ hi < a) (ho : offs[(a - lo).toNat]? = some off) (ht : (pc : Int) + off = (tgt : Int)) (kk : Gv G M R p e s m args below meth c Q cells slots tgt ls st μ) : Gv G M R p e s m args below meth c Q cells slots pc ls ((0, a) :: st) μ :=
  fun H locs lsA hI => lv_tableIn hI.1.1 hI.1.2.1 hd (by rw [ha.eq]; exact h1) (by rw [ha.eq]; exact h2) (by rw [ha.eq]; exact ho) ht (kk H locs lsA hI)
theorem g_widen {k n : Nat} (h1 : cells ≤ k) (h2 : slots ≤ n) (kk : Gv G M R p e s m args below meth c Q k n pc ls st μ) : Gv G M R p e s m args below meth c Q cells slots pc ls st μ :=
  fun H locs lsA hI => W.widen h1 h2 (kk H locs lsA hI)
/-- locals that are wanted no more -/
theorem g_forget {ls' : List AV} (h : ∀ q ∈ am_l G 0 ls', q ∈ am_l G 0 ls) (kk : Gv G M R p e s m args below meth c Q cells slots pc ls' st μ) : Gv G M R p e s m args below meth c Q cells slots pc ls st μ :=
  fun H locs lsA hI => kk H locs lsA ⟨hI.1, hI.2.1, hI.2.2.1, hI.2.2.2.1, hI.2.2.2.2.1, hI.2.2.2.2.2.1, lv_mono hI.2.2.2.2.2.2 h⟩
/-- behind a call, the world put together again -/
theorem g_in {H H1 : Heap} {locs L : List Loc} {lsA : Array Slot} (hI : am_In G M p s m args meth c H locs lsA ls μ) (hP1 : va_P (gD G) vwCl (am_pic G μ1) H1) (hS1 : va_S (am_A G s.heap.size) s.heap H1 L) : am_In G M p s m args meth c H1 L lsA ls μ1 := by
  obtain ⟨hX, hK, hP, hD, hS, hE, hl⟩ := hI
  refine ⟨hX, hK, hP1, ⟨?_, ?_⟩, hS1, hE, hl⟩
  · intro i j x y hx hy hxy
    have gx := (List.getElem?_eq_some_iff.mp hx).1
    have gy := (List.getElem?_eq_some_iff.mp hy).1
    rw [am_pic_len] at gx gy
    rw [am_pic_get gx] at hx
    rw [am_pic_get gy] at hy
    cases hx
    cases hy
    exact hD.1 i j _ _ (am_pic_get gx) (am_pic_get gy) hxy
  · intro k q hq
    have gx := (List.getElem?_eq_some_iff.mp hq).1
    rw [am_pic_len] at gx
    rw [am_pic_get gx] at hq
    cases hq
    exact Or.inl ⟨k, gx, rfl⟩
theorem g_back {a : Array Value} {H : Heap} {locs : List Loc} {lsA : Array Slot} {st0 rest : List Value}
    (hI : am_In G M p s m args meth c H locs lsA ls μ)
    (hr : va_Run p (gL G) e R s m args below meth c H locs cells slots 0 0 (F0 m pc lsA st0) rest (am_Q G H.size r1 μ1 a) (am_A G H.size))
    (kk : ∀ (H1 : Heap) (locs1 : List Loc), am_In G M p s m args meth c H1 locs1 lsA ls μ1 → W p (gL G) e R s m args below meth c H1 locs1 cells slots Q (F0 m (pc + 3) lsA ((r1.map (am_c G)).toList ++ rest))) :
    W p (gL G) e R s m args below meth c H locs cells slots Q (F0 m pc lsA st0) := by
  have hS := hI.2.2.2.2.1
  intro T hT X
  obtain ⟨v, st₀, t, T', L, h0, X', hL, e1, e2, ⟨⟨hv, hP1, hK1⟩, hz, hk⟩, st⟩ := hr T hT X
  cases hv
  rw [h0] at hz hk
  have hk2 : ∀ q : Nat, am_A G H.size q → am_A G s.heap.size q := am_A_le hS.1
  obtain ⟨t2, a1, b1⟩ := kk T'.heap (locs ++ L) (g_in hI (by rw [e1]; exact hP1)
    ⟨Nat.le_trans hS.1 (by rw [e1]; exact hz), fun q h1 h2 => by rw [e1, hk q (Nat.lt_of_lt_of_le h1 hS.1) (fun z => h2 (hk2 q z))]; exact hS.2.1 q h1 h2, fun q hq => by
      rcases List.mem_append.mp hq with h | h
      · exact hS.2.2 q h
      · exact hk2 _ (hL q h)⟩) T' rfl X'
  exact ⟨t2, st t2 a1, b1⟩
/-- room for a call out of a frame of R -/
def g_Room (R : Room) (M2 : AMeth) : Prop := M2.2.2.2.2.1 + 1 ≤ R.frames ∧ 8 + (M2.2.2.1 + 11) + M2.2.2.2.2.2 ≤ R.locals
def g_Cv (M : AMeth) (pc : Nat) (M2 : AMeth) (n : Nat) : Prop := ∃ idx : Nat, decode M.2.1 pc = .ok (.invokevirtual idx, 3) ∧ Cond.methodLink M.1.cls idx M2.1 ∈ TW ∧ Cond.instanceMethod M2.1 ∈ TW ∧ Cond.selects M2.1.cls M2.1 M2.1 ∈ TW ∧ am_Ok M2 n
theorem g_callV {o ci : Nat} {z : Int} (hf : g_Cv M pc M2 n) (hR : g_Room R M2) (hroom : cells ≤ R.cells ∧ slots ≤ R.slots) (hst : st = as.reverse ++ (2, z) :: rest) (ho : z = (o : Int)) (hs : (gS G)[o]? = some (ci, am_N ci)) (hc : (vwCl[ci]?).map (fun q => q.1) = some M2.1.cls) (hn : as.length = n) (hls : ls2 = am_args ((2, z) :: as) ++ List.replicate k (9, 0)) (hl2 : ls2.length = M2.2.2.1) (ht : am_tok as = true) (hcat : am_cs rest ≤ 8)
    (hcall : Ev G M2 0 ls2 [] μ r1 μ1) (kk : Gv G M R p e s m args below meth c Q cells slots (pc + 3) ls (r1.toList ++ rest) μ1) : Gv G M R p e s m args below meth c Q cells slots pc ls st μ := by
  obtain ⟨idx, hd, hlink, hinst, hsel, hok⟩ := hf
  intro H locs lsA hI
  obtain ⟨hX, hK, hP, hD, hS, hE, hl⟩ := id hI
  subst hst
  have hz : 0 ≤ z := by omega
  have hzo : z.toNat = o := by omega
  obtain ⟨q, hq, hqc⟩ : ∃ q : vw_C, vwCl[ci]? = some q ∧ q.1 = M2.1.cls := by
    cases h : vwCl[ci]? with
    | none => rw [h] at hc; cases hc
    | some q => rw [h] at hc; exact ⟨q, rfl, Option.some.inj hc⟩
  have hrec := va_recv hK hP hq (am_pic_at (G := G) (μ := μ) hs (am_el_obj hs (am_cls ci q hq).2.2.2.2))
  rw [hqc] at hrec
  have hpre := am_pre_call (as := (2, z) :: as) hI
  rw [List.map_cons, am_ref_pos hz, hzo] at hpre
  refine g_back hI (va_runV (As := as.map (am_c G)) (rest := rest.map (am_c G)) ⟨hX.1, hX.2.1, hX.2.2.1, hX.2.2.2.1, hX.2.2.2.2.1⟩ (am_met (as := (2, z) :: as) hok hls hl2 (by simp [am_tok, ht]) hcall H.size)
    (cwV (C := M2.1.cls) n hX.2.2.2.2.1 (am_good ?_) rfl rfl rfl ⟨rfl, hok.2.2.2⟩ hR) ⟨hpre.1, hrec, hpre.2⟩ rfl (by rw [List.length_map, hn]) hl.1 ?_ (lv_room (by rw [am_cs_eq]; exact hcat)) hd hroom) (fun H1 locs1 hI1 => ?_)
  · intro w hw
    rcases List.mem_append.mp hw with h | h
    · simp only [List.mem_cons, List.not_mem_nil, or_false] at h
      rcases h with rfl | rfl | rfl | rfl
      · exact hlink
      · exact hinst
      · exact hsel
      · exact hok.2.1
    · exact am_ws_in hok w h
  · show (as.reverse ++ (2, z) :: rest).map (am_c G) = _
    rw [List.map_append, List.map_reverse, List.map_cons, am_ref_pos hz, hzo]
  · have h9 := kk H1 locs1 lsA hI1
    rw [List.map_append] at h9
    cases r1 <;> exact h9
theorem g_lald {o n : Nat} {z i : Int} (hd : decode M.2.1 pc = .ok (.laload, 1)) (ho : z = (o : Int)) (hs : (gS G)[o]? = some (23, n)) (hn : n < 2147483648) (h0 : 0 ≤ i) (h1 : i < n) (kk : Gv G M R p e s m args below meth c Q cells slots (pc + 1) ls ((1, μ z i) :: st) μ) : Gv G M R p e s m args below meth c Q cells slots pc ls ((0, i) :: (2, z) :: st) μ := by
  subst ho
  intro H locs lsA hI
  obtain ⟨hi, hj⟩ := am_clamp h0 h1 hn
  rw [List.map_cons, List.map_cons, am_ref_pos (by omega)]
  refine va_lald hI.1.1 hI.1.2.1 hI.2.1 hI.2.2.1 o 3 (am_pic_at hs (am_el_rowL hs)) rfl hi hd ?_
  rw [hj]
  exact kk H locs lsA hI
theorem g_last {o n : Nat} {z i v : Int} (hd : decode M.2.1 pc = .ok (.lastore, 1)) (ho : z = (o : Int)) (hs : (gS G)[o]? = some (23, n)) (hn : n < 2147483648) (h0 : 0 ≤ i) (h1 : i < n) (kk : Gv G M R p e s m args below meth c Q cells slots (pc + 1) ls st (am_up μ z i v)) : Gv G M R p e s m args below meth c Q cells slots pc ls ((1, v) :: (0, i) :: (2, z) :: st) μ := by
  subst ho
  intro H locs lsA hI
  obtain ⟨hi, hj⟩ := am_clamp h0 h1 hn
  rw [List.map_cons, List.map_cons, List.map_cons, am_ref_pos (by omega)]
  refine va_last hI.1.1 hI.1.2.1 hI.2.1 hI.2.2.1 hI.2.2.2.1 hI.2.2.2.2.1 o 3 (am_pic_at hs (am_el_rowL hs)) rfl hi hd (fun H1 locs1 hP1 hD1 hS1 => ?_)
  rw [am_row_setL hs hj] at hP1 hD1
  exact kk H1 locs1 lsA ⟨hI.1, hI.2.1, hP1, hD1, hS1, hI.2.2.2.2.2⟩
/-- the law's own script -/
theorem g_sld {L : Nat} {xs : Nat → Int32} {i : Int} {j : Nat} (hX : va_X (gK G 13) L xs s s.heap) (hbl : gK G 13 < s.heap.size) (hbA : ¬ am_A G s.heap.size (gK G 13)) (hL : L < 2147483648) (hi : i = (j : Int)) (hj : j < L) (hd : decode M.2.1 pc = .ok (.iaload, 1)) (kk : Gv G M R p e s m args below meth c Q cells slots (pc + 1) ls ((0, (xs j).toInt) :: st) μ) : Gv G M R p e s m args below meth c Q cells slots pc ls ((0, i) :: (3, 13) :: st) μ := by
  subst hi
  intro H locs lsA hI
  obtain ⟨h1, h2⟩ := am_clamp (i := (j : Int)) (n := L) (by omega) (by omega) hL
  have h3 : (Int32.ofInt (j : Int)).toNatClampNeg = j := by omega
  refine va_sld hI.1.1 hI.1.2.1 hX hbl hbA hI.2.2.2.2.1 h1 hd ?_
  rw [h3]
  have h9 := kk H locs lsA hI
  rw [List.map_cons, show am_c G (0, (xs j).toInt) = .int (xs j) from congrArg Value.int (Int32.ofInt_toInt _)] at h9
  exact h9
theorem g_slen {L : Nat} {xs : Nat → Int32} (hX : va_X (gK G 13) L xs s s.heap) (hbl : gK G 13 < s.heap.size) (hbA : ¬ am_A G s.heap.size (gK G 13)) (hd : decode M.2.1 pc = .ok (.arraylength, 1)) (kk : Gv G M R p e s m args below meth c Q cells slots (pc + 1) ls ((0, (L : Int)) :: st) μ) : Gv G M R p e s m args below meth c Q cells slots pc ls ((3, 13) :: st) μ := by
  intro H locs lsA hI
  refine va_slen hI.1.1 hI.1.2.1 hX hbl hbA hI.2.2.2.2.1 hd ?_
  exact kk H locs lsA hI
end Gvs
