/-! ===== The judgement, and a method out of it ===== -/
def am_X (M : AMeth) (p : Program) (s : State) (m : MethodId) (args : Array Value) (meth : Method) (c : Code) : Prop :=
  p.tables.exec = Jvm.exec ∧ c.code = M.2.1 ∧ c.maxLocals = M.2.2.1 ∧ s.vm.findClass M.1.cls = some m.cls ∧ (∀ w ∈ TW, w.before args s = true) ∧ meth.sig.returnType = M.2.2.2.1 ∧ meth.locks = false
def am_In (G : AG) (M : AMeth) (p : Program) (s : State) (m : MethodId) (args : Array Value) (meth : Method) (c : Code) (H : Heap) (locs : List Loc) (lsA : Array Slot) (ls : List AV) (μ : Mu) : Prop :=
  am_X M p s m args meth c ∧ va_K (gD G) vwCl (am_tys G) s ∧ va_P (gD G) vwCl (am_pic G μ) H ∧ va_D (am_A G s.heap.size) (am_pic G μ) ∧ va_S (am_A G s.heap.size) s.heap H locs ∧ am_Env G s.heap.size s ∧ lv_has lsA M.2.2.1 (am_l G 0 ls)
/-- an end: the answer, the world, what else stayed -/
def am_Q (G : AG) (sz : Nat) (r : Option AV) (μ : Mu) : Array Value → State → Outcome → State → Prop := fun _ st oc t =>
  (oc = .returned (r.map (am_c G)) ∧ va_P (gD G) vwCl (am_pic G μ) t.heap ∧ va_K (gD G) vwCl (am_tys G) t) ∧ va_F (am_A G sz) st t
/-- a goal of the machine, of this frame -/
abbrev am_W (G : AG) (M : AMeth) (p : Program) (e : Env) (s : State) (m : MethodId) (args : Array Value) (below : List Frame) (meth : Method) (c : Code) (H : Heap) (locs : List Loc) (Q : State → Prop) (pc : Nat) (lsA : Array Slot) (st : List Value) : Prop :=
  W p (gL G) e (am_R M) s m args below meth c H locs 0 0 Q (F0 m pc lsA st)
def Ev (G : AG) (M : AMeth) (pc : Nat) (ls st : List AV) (μ : Mu) (r : Option AV) (μ' : Mu) : Prop :=
  ∀ (p : Program) (e : Env) (s : State) (m : MethodId) (args : Array Value) (below : List Frame) (meth : Method) (c : Code) (H : Heap) (locs : List Loc) (lsA : Array Slot),
    am_In G M p s m args meth c H locs lsA ls μ →
    am_W G M p e s m args below meth c H locs (MQ below (am_Q G s.heap.size r μ') args s 0 0 (am_A G s.heap.size)) pc lsA (st.map (am_c G))
def am_Pc (G : AG) (sz : Nat) (args : List AV) (μ : Mu) : Array Value → State → Prop :=
  va_Pc (args.map (am_c G)) (fun U => U.heap.size = sz ∧ va_P (gD G) vwCl (am_pic G μ) U.heap ∧ va_K (gD G) vwCl (am_tys G) U ∧ va_D (fun _ => True) (am_pic G μ) ∧ am_Env G sz U)
theorem am_ofW {l : Launch} {y : MethodName} {ws ws' : List Cond} {rm : Room} {Pc : Array Value → State → Prop} {Qc : Array Value → State → Outcome → State → Prop} {mc ms : Nat} {free : Addr → Prop} {cc : ByteArray} {maxL : Nat} {ret : Option FieldType}
    (hy : plainFor y = true) (hw : ws = Cond.code y cc maxL ret :: ws')
    (body : ∀ p e s m args below meth c s₁, BodyLoose p l y (headSpec ws rm) cc maxL ret e s m args below meth c s₁ → c.maxLocals = maxL → Pc args s →
      W p l e (headSpec ws rm).room s m args below meth c s.heap [] 0 0 (MQ below Qc args s mc ms free) (entryFrame m args maxL)) : Met l y ws rm Pc Qc mc ms free := by
  refine MetFree.of_bodySF (code := cc) (maxLocals := maxL) (ret := ret) hy ?_ ?_
  · intro args s m h hn
    obtain ⟨meth, c, h1, h2, h3, h4, h5, h6, -, -⟩ := Cond.code_spec hn (atoms_spec (ws := ws) h _ (by rw [hw]; exact List.mem_cons_self))
    exact ⟨meth, c, h1, h2, h3, h4, h5, h6⟩
  · intro p e s m args below meth c s₁ B hml hP _
    have hh0 : s₁.heap = s.heap := by rw [B.state]; rfl
    obtain ⟨t, a1, o, b1, b2, b3⟩ := body p e s m args below meth c s₁ B hml hP s₁ hh0 (Stand.of_body B)
    exact ⟨t, o, a1, b1, b2, ⟨b3.1, b3.2⟩⟩
theorem Ev.met {G : AG} {M : AMeth} {as : List AV} {k : Nat} {μ μ' : Mu} {r : Option AV} (h : Ev G M 0 (am_args as ++ List.replicate k (9, 0)) [] μ r μ') (hpl : plainFor M.1 = true)
    (hlen : (lg_sl (as.map (am_c G))).length ≤ M.2.2.1) (hv : ∀ v ∈ as, v.1 < 9) (sz : Nat) :
    Met (gL G) M.1 (am_ws M) (am_R M) (am_Pc G sz as μ) (am_Q G sz r μ') 0 0 (am_A G sz) := by
  refine am_ofW (cc := M.2.1) (maxL := M.2.2.1) (ret := M.2.2.2.1) hpl rfl ?_
  intro p e s m args below meth c s₁ B hml hv0
  obtain ⟨rfl, hsz, hP, hK, hD0, hE⟩ := hv0
  subst hsz
  have hts := atoms_spec (ws := am_ws M) B.pre
  have hl := lv_entry (as.map (am_c G)) (n := M.2.2.1) hlen
  rw [lg_entry_eq]
  exact h p e s m _ below meth c s.heap [] _ ⟨⟨B.exec, B.bytes, hml, findClass_of_methodNamed B.named, fun w hw => hts w (List.mem_cons_of_mem _ hw), B.returns, B.notSynchronized⟩, hK, hP, am_pic_D hD0, va_S.rf, hE, lv_mono hl (am_l_args as 0 k hv)⟩
theorem am_Pc_blind {G : AG} {sz : Nat} {as : List AV} {μ : Mu} : FrameBlind (am_Pc G sz as μ) := by
  intro a U g mk q
  obtain ⟨q0, q1, qP, qK, qD, qE, qT⟩ := q
  exact ⟨q0, q1, qP, va_K.moved (u := U) (U := U.calling g mk a) (Vm.Alike.refl U.vm) qK, qD, am_E0.moved (u := U) (U := U.calling g mk a) (Vm.Alike.refl U.vm) qE, fun i q hq => vk_R.same (u := U) (U := U.calling g mk a) rfl (qT i q hq)⟩
/-- behind a call -/
theorem am_back {G : AG} {M : AMeth} {p : Program} {e : Env} {s : State} {m : MethodId} {args : Array Value} {below : List Frame} {meth : Method} {c : Code} {H : Heap} {locs : List Loc} {lsA : Array Slot} {ls : List AV} {μ μ1 : Mu} {Q : State → Prop} {pc : Nat} {st0 rest : List Value} {a : Array Value} {r1 : Option AV}
    (hI : am_In G M p s m args meth c H locs lsA ls μ)
    (hr : va_Run p (gL G) e (am_R M) s m args below meth c H locs 0 0 0 0 (F0 m pc lsA st0) rest (am_Q G H.size r1 μ1 a) (am_A G H.size))
    (kk : ∀ (H1 : Heap) (locs1 : List Loc), am_In G M p s m args meth c H1 locs1 lsA ls μ1 → am_W G M p e s m args below meth c H1 locs1 Q (pc + 3) lsA ((r1.map (am_c G)).toList ++ rest)) :
    am_W G M p e s m args below meth c H locs Q pc lsA st0 := by
  obtain ⟨hX, hK, hP, hD, hS, hE, hl⟩ := hI
  intro T hT X
  obtain ⟨v, st₀, t, T', L, h0, X', hL, e1, e2, ⟨⟨hv, hP1, hK1⟩, hz, hk⟩, st⟩ := hr T hT X
  cases hv
  rw [h0] at hz hk
  have hk2 : ∀ q : Nat, am_A G H.size q → am_A G s.heap.size q := am_A_le hS.1
  obtain ⟨t2, a1, b1⟩ := kk T'.heap (locs ++ L) ⟨hX, hK, by rw [e1]; exact hP1, ⟨by
      intro i j x y hx hy hxy
      have gx := (List.getElem?_eq_some_iff.mp hx).1
      have gy := (List.getElem?_eq_some_iff.mp hy).1
      rw [am_pic_len] at gx gy
      rw [am_pic_get gx] at hx
      rw [am_pic_get gy] at hy
      cases hx
      cases hy
      exact hD.1 i j _ _ (am_pic_get gx) (am_pic_get gy) hxy, by
      intro k q hq
      have gx := (List.getElem?_eq_some_iff.mp hq).1
      rw [am_pic_len] at gx
      rw [am_pic_get gx] at hq
      cases hq
      exact Or.inl ⟨k, gx, rfl⟩⟩,
    ⟨Nat.le_trans hS.1 (by rw [e1]; exact hz), fun q h1 h2 => by rw [e1, hk q (Nat.lt_of_lt_of_le h1 hS.1) (fun z => h2 (hk2 q z))]; exact hS.2.1 q h1 h2, fun q hq => by
      rcases List.mem_append.mp hq with h | h
      · exact hS.2.2 q h
      · exact hk2 _ (hL q h)⟩, hE, hl⟩ T' rfl X'
  exact ⟨t2, st t2 a1, b1⟩
theorem am_pre_call {G : AG} {M : AMeth} {p : Program} {s : State} {m : MethodId} {args : Array Value} {meth : Method} {c : Code} {H : Heap} {locs : List Loc} {lsA : Array Slot} {ls as : List AV} {μ : Mu}
    (hI : am_In G M p s m args meth c H locs lsA ls μ) : PreS s H (am_Pc G H.size as μ) (as.map (am_c G)) := by
  obtain ⟨hX, hK, hP, hD, hS, hE, hl⟩ := hI
  exact ⟨am_Pc_blind, fun U hU hW => ⟨rfl, by rw [hU], by rw [hU]; exact hP, va_K.moved hW.alike hK, hD.weaken (fun _ _ _ _ => trivial), hE.to hS hU hW⟩⟩
/-- a row that changes the stack and the place alone -/
theorem Ev.stk {G : AG} {M : AMeth} {pc pc2 : Nat} {ls st st2 : List AV} {μ μ' : Mu} {r : Option AV}
    (h : ∀ (p : Program) (e : Env) (s : State) (m : MethodId) (args : Array Value) (below : List Frame) (meth : Method) (c : Code) (H : Heap) (locs : List Loc) (lsA : Array Slot) (Q : State → Prop),
      p.tables.exec = Jvm.exec → c.code = M.2.1 → am_In G M p s m args meth c H locs lsA ls μ → am_W G M p e s m args below meth c H locs Q pc2 lsA (st2.map (am_c G)) → am_W G M p e s m args below meth c H locs Q pc lsA (st.map (am_c G)))
    (kk : Ev G M pc2 ls st2 μ r μ') : Ev G M pc ls st μ r μ' :=
  fun p e s m args below meth c H locs lsA hI => h p e s m args below meth c H locs lsA _ hI.1.1 hI.1.2.1 hI (kk p e s m args below meth c H locs lsA hI)
section EvRows
variable {G : AG} {M : AMeth} {pc : Nat} {ls st : List AV} {μ μ' : Mu} {r : Option AV}
theorem R32.eq {z : Int} (h : R32 z) : (Int32.ofInt z).toInt = z := Int32.toInt_ofInt_of_le (by have := h.1; omega) (by have := h.2; omega)
theorem R64.eq {z : Int} (h : R64 z) : (Int64.ofInt z).toInt = z := Int64.toInt_ofInt_of_le (by have := h.1; omega) (by have := h.2; omega)
theorem am_lt {a b : Int} (ha : R32 a) (hb : R32 b) : Int32.ofInt a < Int32.ofInt b ↔ a < b := by rw [Int32.lt_iff_toInt_lt, ha.eq, hb.eq]
theorem am_le {a b : Int} (ha : R32 a) (hb : R32 b) : Int32.ofInt a ≤ Int32.ofInt b ↔ a ≤ b := by rw [Int32.le_iff_toInt_le, ha.eq, hb.eq]
theorem am_eq {a b : Int} (ha : R32 a) (hb : R32 b) : Int32.ofInt a = Int32.ofInt b ↔ a = b := by rw [← Int32.toInt_inj, ha.eq, hb.eq]
theorem am_0 : (0 : Int32) = Int32.ofInt 0 := by decide
theorem R32.zero : R32 0 := by constructor <;> decide
-- constants
theorem e_iconst {n : Int} (hd : decode M.2.1 pc = .ok (.iconst n, 1)) (kk : Ev G M (pc + 1) ls ((0, n) :: st) μ r μ') : Ev G M pc ls st μ r μ' :=
  Ev.stk (fun _ _ _ _ _ _ _ _ _ _ _ _ hx hb _ k => lv_iconst hx hb hd rfl k) kk
theorem e_bipush {n : Int} (hd : decode M.2.1 pc = .ok (.bipush n, 2)) (hn : (Int8.ofInt n).toInt32 = Int32.ofInt n) (kk : Ev G M (pc + 2) ls ((0, n) :: st) μ r μ') : Ev G M pc ls st μ r μ' :=
  Ev.stk (fun _ _ _ _ _ _ _ _ _ _ _ _ hx hb _ k => lv_bipush hx hb hd hn k) kk
theorem e_sipush {n : Int} (hd : decode M.2.1 pc = .ok (.sipush n, 3)) (hn : (Int16.ofInt n).toInt32 = Int32.ofInt n) (kk : Ev G M (pc + 3) ls ((0, n) :: st) μ r μ') : Ev G M pc ls st μ r μ' :=
  Ev.stk (fun _ _ _ _ _ _ _ _ _ _ _ _ hx hb _ k => lv_sipush hx hb hd hn k) kk
theorem e_ldc {i : Nat} {v : Int32} {n : Int} (hd : decode M.2.1 pc = .ok (.ldc i, 2)) (hw : Cond.constant M.1.cls i v ∈ TW) (hn : Int32.ofInt n = v) (kk : Ev G M (pc + 2) ls ((0, n) :: st) μ r μ') : Ev G M pc ls st μ r μ' :=
  Ev.stk (fun _ _ _ _ _ _ _ _ _ _ _ _ hx hb hI k => lv_ldc hx hb hI.1.2.2.2.1 (hI.1.2.2.2.2.1 _ hw) hd (by rw [← hn]; exact k)) kk
theorem e_ldcw {i : Nat} {v : Int32} {n : Int} (hd : decode M.2.1 pc = .ok (.ldc_w i, 3)) (hw : Cond.constant M.1.cls i v ∈ TW) (hn : Int32.ofInt n = v) (kk : Ev G M (pc + 3) ls ((0, n) :: st) μ r μ') : Ev G M pc ls st μ r μ' :=
  Ev.stk (fun _ _ _ _ _ _ _ _ _ _ _ _ hx hb hI k => lv_ldcw hx hb hI.1.2.2.2.1 (hI.1.2.2.2.2.1 _ hw) hd (by rw [← hn]; exact k)) kk
theorem e_ldc2 {i : Nat} {v : Int64} {n : Int} (hd : decode M.2.1 pc = .ok (.ldc2_w i, 3)) (hw : Cond.constantLong M.1.cls i v ∈ TW) (hn : Int64.ofInt n = v) (kk : Ev G M (pc + 3) ls ((1, n) :: st) μ r μ') : Ev G M pc ls st μ r μ' :=
  Ev.stk (fun _ _ _ _ _ _ _ _ _ _ _ _ hx hb hI k => lv_ldc2 hx hb hI.1.2.2.2.1 (hI.1.2.2.2.2.1 _ hw) hd (by rw [← hn]; exact k)) kk
-- loads
theorem am_loc {G : AG} {ls : List AV} {lsA : Array Slot} {nL i : Nat} {v : AV} (hl : lv_has lsA nL (am_l G 0 ls)) (h : ls[i]? = some v) (hv : v.1 < 9) : lsA[i]? = some (.val (am_c G v)) := by
  have := hl.2.2 _ (by simpa using am_l_mem hv ls 0 i h)
  exact this
theorem am_ref_pos {G : AG} {o : Int} (h : 0 ≤ o) : am_c G (2, o) = .ref (gA G o.toNat) := by simp [am_c, am_ref, show ¬ o < 0 by omega]
theorem e_iload_n {k : Fin 4} {i : Nat} {x : Int} (hd : decode M.2.1 pc = .ok (.iload_n k, 1)) (hi : (k : Nat) = i) (hl : ls[i]? = some (0, x)) (kk : Ev G M (pc + 1) ls ((0, x) :: st) μ r μ') : Ev G M pc ls st μ r μ' :=
  Ev.stk (fun _ _ _ _ _ _ _ _ _ _ _ _ hx hb hI k => lv_iload_n hx hb hd hi (am_loc hI.2.2.2.2.2.2 hl (Nat.le_of_ble_eq_true rfl)) k) kk
theorem e_iload {i : Nat} {x : Int} (hd : decode M.2.1 pc = .ok (.iload i, 2)) (hl : ls[i]? = some (0, x)) (kk : Ev G M (pc + 2) ls ((0, x) :: st) μ r μ') : Ev G M pc ls st μ r μ' :=
  Ev.stk (fun _ _ _ _ _ _ _ _ _ _ _ _ hx hb hI k => lv_iload hx hb hd (am_loc hI.2.2.2.2.2.2 hl (Nat.le_of_ble_eq_true rfl)) k) kk
theorem e_lload_n {k : Fin 4} {i : Nat} {x : Int} (hd : decode M.2.1 pc = .ok (.lload_n k, 1)) (hi : (k : Nat) = i) (hl : ls[i]? = some (1, x)) (kk : Ev G M (pc + 1) ls ((1, x) :: st) μ r μ') : Ev G M pc ls st μ r μ' :=
  Ev.stk (fun _ _ _ _ _ _ _ _ _ _ _ _ hx hb hI k => lv_lload_n hx hb hd hi (am_loc hI.2.2.2.2.2.2 hl (Nat.le_of_ble_eq_true rfl)) k) kk
theorem e_lload {i : Nat} {x : Int} (hd : decode M.2.1 pc = .ok (.lload i, 2)) (hl : ls[i]? = some (1, x)) (kk : Ev G M (pc + 2) ls ((1, x) :: st) μ r μ') : Ev G M pc ls st μ r μ' :=
  Ev.stk (fun _ _ _ _ _ _ _ _ _ _ _ _ hx hb hI k => lv_lload hx hb hd (am_loc hI.2.2.2.2.2.2 hl (Nat.le_of_ble_eq_true rfl)) k) kk
theorem e_aload_n {k : Fin 4} {i : Nat} {x : Int} (hd : decode M.2.1 pc = .ok (.aload_n k, 1)) (hi : (k : Nat) = i) (hl : ls[i]? = some (2, x)) (h0 : 0 ≤ x) (kk : Ev G M (pc + 1) ls ((2, x) :: st) μ r μ') : Ev G M pc ls st μ r μ' :=
  Ev.stk (fun _ _ _ _ _ _ _ _ _ _ _ _ hx hb hI k => lv_aload_n hx hb hd hi (by rw [← am_ref_pos h0]; exact am_loc hI.2.2.2.2.2.2 hl (Nat.le_of_ble_eq_true rfl)) (by rw [← am_ref_pos h0]; exact k)) kk
theorem e_aload {i : Nat} {x : Int} (hd : decode M.2.1 pc = .ok (.aload i, 2)) (hl : ls[i]? = some (2, x)) (h0 : 0 ≤ x) (kk : Ev G M (pc + 2) ls ((2, x) :: st) μ r μ') : Ev G M pc ls st μ r μ' :=
  Ev.stk (fun _ _ _ _ _ _ _ _ _ _ _ _ hx hb hI k => lv_aload hx hb hd (by rw [← am_ref_pos h0]; exact am_loc hI.2.2.2.2.2.2 hl (Nat.le_of_ble_eq_true rfl)) (by rw [← am_ref_pos h0]; exact k)) kk
theorem e_aload_nS {k : Fin 4} {i : Nat} {x : Int} (hd : decode M.2.1 pc = .ok (.aload_n k, 1)) (hi : (k : Nat) = i) (hl : ls[i]? = some (3, x)) (kk : Ev G M (pc + 1) ls ((3, x) :: st) μ r μ') : Ev G M pc ls st μ r μ' :=
  Ev.stk (fun _ _ _ _ _ _ _ _ _ _ _ _ hx hb hI k => lv_aload_n hx hb hd hi (am_loc hI.2.2.2.2.2.2 hl (Nat.le_of_ble_eq_true rfl)) k) kk
-- stores
theorem Ev.sto {G : AG} {M : AMeth} {pc pc2 : Nat} {ls ls2 st st2 : List AV} {μ μ' : Mu} {r : Option AV}
    (h : ∀ (p : Program) (e : Env) (s : State) (m : MethodId) (args : Array Value) (below : List Frame) (meth : Method) (c : Code) (H : Heap) (locs : List Loc) (lsA : Array Slot) (Q : State → Prop),
      p.tables.exec = Jvm.exec → c.code = M.2.1 → lv_has lsA M.2.2.1 (am_l G 0 ls) → (∀ lsB : Array Slot, lv_has lsB M.2.2.1 (am_l G 0 ls2) → am_W G M p e s m args below meth c H locs Q pc2 lsB (st2.map (am_c G))) → am_W G M p e s m args below meth c H locs Q pc lsA (st.map (am_c G)))
    (kk : Ev G M pc2 ls2 st2 μ r μ') : Ev G M pc ls st μ r μ' :=
  fun p e s m args below meth c H locs lsA hI => h p e s m args below meth c H locs lsA _ hI.1.1 hI.1.2.1 hI.2.2.2.2.2.2 (fun lsB hB => kk p e s m args below meth c H locs lsB ⟨hI.1, hI.2.1, hI.2.2.1, hI.2.2.2.1, hI.2.2.2.2.1, hI.2.2.2.2.2.1, hB⟩)
theorem e_istore_n {k : Fin 4} {i : Nat} {x : Int} (hd : decode M.2.1 pc = .ok (.istore_n k, 1)) (hi : (k : Nat) = i) (hn : i < M.2.2.1) (hp : am_pre ls i = true) (kk : Ev G M (pc + 1) (ls.set i (0, x)) st μ r μ') : Ev G M pc ls ((0, x) :: st) μ r μ' :=
  Ev.sto (fun _ _ _ _ _ _ _ _ _ _ _ _ hx hb hl k => lv_istore_n hx hb hd hi hl hn rfl (fun ls' h' => k ls' (lv_mono h' (am_l_set1 hp)))) kk
theorem e_istore {i : Nat} {x : Int} (hd : decode M.2.1 pc = .ok (.istore i, 2)) (hn : i < M.2.2.1) (hp : am_pre ls i = true) (kk : Ev G M (pc + 2) (ls.set i (0, x)) st μ r μ') : Ev G M pc ls ((0, x) :: st) μ r μ' :=
  Ev.sto (fun _ _ _ _ _ _ _ _ _ _ _ _ hx hb hl k => lv_istore hx hb hd hl hn rfl (fun ls' h' => k ls' (lv_mono h' (am_l_set1 hp)))) kk
theorem e_lstore_n {k : Fin 4} {i : Nat} {x : Int} (hd : decode M.2.1 pc = .ok (.lstore_n k, 1)) (hi : (k : Nat) = i) (hn : i + 1 < M.2.2.1) (hp : am_pre ls i = true) (kk : Ev G M (pc + 1) ((ls.set i (1, x)).set (i + 1) (9, 0)) st μ r μ') : Ev G M pc ls ((1, x) :: st) μ r μ' :=
  Ev.sto (fun _ _ _ _ _ _ _ _ _ _ _ _ hx hb hl k => lv_lstore_n hx hb hd hi hl hn rfl (fun ls' h' => k ls' (lv_mono h' (am_l_set2 hp)))) kk
theorem e_lstore {i : Nat} {x : Int} (hd : decode M.2.1 pc = .ok (.lstore i, 2)) (hn : i + 1 < M.2.2.1) (hp : am_pre ls i = true) (kk : Ev G M (pc + 2) ((ls.set i (1, x)).set (i + 1) (9, 0)) st μ r μ') : Ev G M pc ls ((1, x) :: st) μ r μ' :=
  Ev.sto (fun _ _ _ _ _ _ _ _ _ _ _ _ hx hb hl k => lv_lstore hx hb hd hl hn rfl (fun ls' h' => k ls' (lv_mono h' (am_l_set2 hp)))) kk
theorem e_astore_n {k : Fin 4} {i : Nat} {x : Int} (hd : decode M.2.1 pc = .ok (.astore_n k, 1)) (hi : (k : Nat) = i) (hn : i < M.2.2.1) (hp : am_pre ls i = true) (h0 : 0 ≤ x) (kk : Ev G M (pc + 1) (ls.set i (2, x)) st μ r μ') : Ev G M pc ls ((2, x) :: st) μ r μ' :=
  Ev.sto (fun _ _ _ _ _ _ _ _ _ _ _ _ hx hb hl k => by
    rw [List.map_cons, am_ref_pos h0]
    exact lv_astore_n hx hb hd hi hl hn rfl (fun ls' h' => k ls' (lv_mono h' (by rw [← am_ref_pos h0]; exact am_l_set1 hp)))) kk
theorem e_iinc {i : Nat} {x n : Int} (hd : decode M.2.1 pc = .ok (.iinc i n, 3)) (hl : ls[i]? = some (0, x)) (hn : i < M.2.2.1) (hp : am_pre ls i = true) (kk : Ev G M (pc + 3) (ls.set i (0, x + n)) st μ r μ') : Ev G M pc ls st μ r μ' :=
  Ev.sto (fun _ _ _ _ _ _ _ _ _ _ _ _ hx hb h k => by
    have hm : (i, Value.int (Int32.ofInt x)) ∈ am_l G 0 ls := by
      have h9 := am_l_mem (G := G) (v := (0, x)) (Nat.le_of_ble_eq_true rfl) ls 0 i hl
      rw [Nat.zero_add] at h9
      exact h9
    obtain ⟨k0, hk0⟩ := List.mem_iff_getElem?.mp hm
    refine lv_iinc (v := Int32.ofInt (x + n)) hx hb hd h hk0 (by rw [Int32.ofInt_add]) hn rfl (fun ls' h' => k ls' (lv_mono h' ?_))
    exact am_l_set1 (v := (0, x + n)) hp) kk
-- arithmetic
theorem e_iadd {a b : Int} (hd : decode M.2.1 pc = .ok (.iadd, 1)) (kk : Ev G M (pc + 1) ls ((0, a + b) :: st) μ r μ') : Ev G M pc ls ((0, b) :: (0, a) :: st) μ r μ' :=
  Ev.stk (fun _ _ _ _ _ _ _ _ _ _ _ _ hx hb hI k => lv_iadd hx hb hd (by rw [← Int32.ofInt_add]; exact k)) kk
theorem e_isub {a b : Int} (hd : decode M.2.1 pc = .ok (.isub, 1)) (kk : Ev G M (pc + 1) ls ((0, a - b) :: st) μ r μ') : Ev G M pc ls ((0, b) :: (0, a) :: st) μ r μ' :=
  Ev.stk (fun _ _ _ _ _ _ _ _ _ _ _ _ hx hb hI k => lv_isub hx hb hd (by rw [← Int32.ofInt_sub]; exact k)) kk
theorem e_imul {a b : Int} (hd : decode M.2.1 pc = .ok (.imul, 1)) (kk : Ev G M (pc + 1) ls ((0, a * b) :: st) μ r μ') : Ev G M pc ls ((0, b) :: (0, a) :: st) μ r μ' :=
  Ev.stk (fun _ _ _ _ _ _ _ _ _ _ _ _ hx hb hI k => lv_imul hx hb hd (by rw [← Int32.ofInt_mul]; exact k)) kk
theorem e_ladd {a b : Int} (hd : decode M.2.1 pc = .ok (.ladd, 1)) (kk : Ev G M (pc + 1) ls ((1, a + b) :: st) μ r μ') : Ev G M pc ls ((1, b) :: (1, a) :: st) μ r μ' :=
  Ev.stk (fun _ _ _ _ _ _ _ _ _ _ _ _ hx hb hI k => lv_ladd hx hb hd (by rw [← Int64.ofInt_add]; exact k)) kk
theorem e_ineg {a : Int} (hd : decode M.2.1 pc = .ok (.ineg, 1)) (kk : Ev G M (pc + 1) ls ((0, -a) :: st) μ r μ') : Ev G M pc ls ((0, a) :: st) μ r μ' :=
  Ev.stk (fun _ _ _ _ _ _ _ _ _ _ _ _ hx hb hI k => lv_ineg hx hb hd (by rw [← Int32.ofInt_neg]; exact k)) kk
theorem am_tdiv {a b : Int} (ha : R32 a) (hb : R32 b) : Int32.ofInt (a.tdiv b) = Int32.ofInt a / Int32.ofInt b := Int32.ofInt_tdiv (Int.le_trans (by decide) ha.1) (Int.le_trans ha.2 (by decide)) (Int.le_trans (by decide) hb.1) (Int.le_trans hb.2 (by decide))
theorem am_ne0 {b : Int} (hb : R32 b) (h : b ≠ 0) : ¬ Int32.ofInt b = 0 := by rw [am_0, am_eq hb R32.zero]; exact h
theorem e_idiv {a b : Int} (hd : decode M.2.1 pc = .ok (.idiv, 1)) (ha : R32 a) (hb0 : R32 b) (h0 : b ≠ 0) (kk : Ev G M (pc + 1) ls ((0, a.tdiv b) :: st) μ r μ') : Ev G M pc ls ((0, b) :: (0, a) :: st) μ r μ' :=
  Ev.stk (fun _ _ _ _ _ _ _ _ _ _ _ _ hx hb hI k => lv_idiv hx hb hd (am_ne0 hb0 h0) (by rw [← am_tdiv ha hb0]; exact k)) kk
theorem e_irem {a b : Int} (hd : decode M.2.1 pc = .ok (.irem, 1)) (ha : R32 a) (hb0 : R32 b) (h0 : b ≠ 0) (kk : Ev G M (pc + 1) ls ((0, a.tmod b) :: st) μ r μ') : Ev G M pc ls ((0, b) :: (0, a) :: st) μ r μ' :=
  Ev.stk (fun _ _ _ _ _ _ _ _ _ _ _ _ hx hb hI k => lv_irem hx hb hd (am_ne0 hb0 h0) (by rw [← am_tdiv ha hb0, ← Int32.ofInt_mul, ← Int32.ofInt_sub, show a - a.tdiv b * b = a.tmod b by rw [Int.tmod_def, Int.mul_comm]]; exact k)) kk
def am_iand (a b : Int) : Int := (Int32.ofInt a &&& Int32.ofInt b).toInt
def am_ior (a b : Int) : Int := (Int32.ofInt a ||| Int32.ofInt b).toInt
def am_ishl (a b : Int) : Int := (Int32.ofInt a <<< (Int32.ofInt b &&& 31)).toInt
def am_ishr (a b : Int) : Int := (Int32.ofInt a >>> (Int32.ofInt b &&& 31)).toInt
def am_land (a b : Int) : Int := (Int64.ofInt a &&& Int64.ofInt b).toInt
def am_lshl (a b : Int) : Int := (Int64.ofInt a <<< ((Int32.ofInt b).toInt64 &&& 63)).toInt
def am_lshr (a b : Int) : Int := (Int64.ofInt a >>> ((Int32.ofInt b).toInt64 &&& 63)).toInt
def am_i2b (a : Int) : Int := (Int32.ofInt a).toInt8.toInt32.toInt
def am_cmp (a b : Int) : Int := if b < a then 1 else if a = b then 0 else -1
theorem e_iand {a b : Int} (hd : decode M.2.1 pc = .ok (.iand, 1)) (kk : Ev G M (pc + 1) ls ((0, am_iand a b) :: st) μ r μ') : Ev G M pc ls ((0, b) :: (0, a) :: st) μ r μ' :=
  Ev.stk (fun _ _ _ _ _ _ _ _ _ _ _ _ hx hb hI k => lv_iand hx hb hd (by have h9 : Int32.ofInt (am_iand a b) = Int32.ofInt a &&& Int32.ofInt b := Int32.ofInt_toInt _; rw [← h9]; exact k)) kk
theorem e_ior {a b : Int} (hd : decode M.2.1 pc = .ok (.ior, 1)) (kk : Ev G M (pc + 1) ls ((0, am_ior a b) :: st) μ r μ') : Ev G M pc ls ((0, b) :: (0, a) :: st) μ r μ' :=
  Ev.stk (fun _ _ _ _ _ _ _ _ _ _ _ _ hx hb hI k => lv_ior hx hb hd (by have h9 : Int32.ofInt (am_ior a b) = Int32.ofInt a ||| Int32.ofInt b := Int32.ofInt_toInt _; rw [← h9]; exact k)) kk
theorem e_ishl {a b : Int} (hd : decode M.2.1 pc = .ok (.ishl, 1)) (kk : Ev G M (pc + 1) ls ((0, am_ishl a b) :: st) μ r μ') : Ev G M pc ls ((0, b) :: (0, a) :: st) μ r μ' :=
  Ev.stk (fun _ _ _ _ _ _ _ _ _ _ _ _ hx hb hI k => lv_ishl hx hb hd (by have h9 : Int32.ofInt (am_ishl a b) = Int32.ofInt a <<< (Int32.ofInt b &&& 31) := Int32.ofInt_toInt _; rw [← h9]; exact k)) kk
theorem e_ishr {a b : Int} (hd : decode M.2.1 pc = .ok (.ishr, 1)) (kk : Ev G M (pc + 1) ls ((0, am_ishr a b) :: st) μ r μ') : Ev G M pc ls ((0, b) :: (0, a) :: st) μ r μ' :=
  Ev.stk (fun _ _ _ _ _ _ _ _ _ _ _ _ hx hb hI k => lv_ishr hx hb hd (by have h9 : Int32.ofInt (am_ishr a b) = Int32.ofInt a >>> (Int32.ofInt b &&& 31) := Int32.ofInt_toInt _; rw [← h9]; exact k)) kk
theorem e_land {a b : Int} (hd : decode M.2.1 pc = .ok (.land, 1)) (kk : Ev G M (pc + 1) ls ((1, am_land a b) :: st) μ r μ') : Ev G M pc ls ((1, b) :: (1, a) :: st) μ r μ' :=
  Ev.stk (fun _ _ _ _ _ _ _ _ _ _ _ _ hx hb hI k => lv_land hx hb hd (by have h9 : Int64.ofInt (am_land a b) = Int64.ofInt a &&& Int64.ofInt b := Int64.ofInt_toInt _; rw [← h9]; exact k)) kk
theorem e_lshl {a b : Int} (hd : decode M.2.1 pc = .ok (.lshl, 1)) (kk : Ev G M (pc + 1) ls ((1, am_lshl a b) :: st) μ r μ') : Ev G M pc ls ((0, b) :: (1, a) :: st) μ r μ' :=
  Ev.stk (fun _ _ _ _ _ _ _ _ _ _ _ _ hx hb hI k => lv_lshl (v := Int64.ofInt (am_lshl a b)) hx hb hd (by rw [am_lshl, Int64.ofInt_toInt]) k) kk
theorem e_lshr {a b : Int} (hd : decode M.2.1 pc = .ok (.lshr, 1)) (kk : Ev G M (pc + 1) ls ((1, am_lshr a b) :: st) μ r μ') : Ev G M pc ls ((0, b) :: (1, a) :: st) μ r μ' :=
  Ev.stk (fun _ _ _ _ _ _ _ _ _ _ _ _ hx hb hI k => lv_lshr (v := Int64.ofInt (am_lshr a b)) hx hb hd (by rw [am_lshr, Int64.ofInt_toInt]) k) kk
theorem e_i2l {a : Int} (hd : decode M.2.1 pc = .ok (.i2l, 1)) (ha : R32 a) (kk : Ev G M (pc + 1) ls ((1, a) :: st) μ r μ') : Ev G M pc ls ((0, a) :: st) μ r μ' :=
  Ev.stk (fun _ _ _ _ _ _ _ _ _ _ _ _ hx hb hI k => lv_i2l (v := Int64.ofInt a) hx hb hd (by rw [← Int64.toInt_inj, Int32.toInt_toInt64, ha.eq, R64.eq ⟨by have := ha.1; omega, by have := ha.2; omega⟩]) k) kk
theorem e_l2i {a : Int} (hd : decode M.2.1 pc = .ok (.l2i, 1)) (kk : Ev G M (pc + 1) ls ((0, a) :: st) μ r μ') : Ev G M pc ls ((1, a) :: st) μ r μ' :=
  Ev.stk (fun _ _ _ _ _ _ _ _ _ _ _ _ hx hb hI k => lv_l2i (v := Int32.ofInt a) hx hb hd (by rw [Int64.toInt32_ofInt]) k) kk
theorem e_i2b {a : Int} (hd : decode M.2.1 pc = .ok (.i2b, 1)) (kk : Ev G M (pc + 1) ls ((0, am_i2b a) :: st) μ r μ') : Ev G M pc ls ((0, a) :: st) μ r μ' :=
  Ev.stk (fun _ _ _ _ _ _ _ _ _ _ _ _ hx hb hI k => lv_i2b (v := Int32.ofInt (am_i2b a)) hx hb hd (by rw [am_i2b, Int32.ofInt_toInt]) k) kk
theorem am_cmp_eq {a b : Int} (ha : R64 a) (hb : R64 b) : lg_cmp (Int64.ofInt a) (Int64.ofInt b) = Int32.ofInt (am_cmp a b) := by
  have h1 : Int64.ofInt a > Int64.ofInt b ↔ b < a := by rw [gt_iff_lt, Int64.lt_iff_toInt_lt, ha.eq, hb.eq]
  have h2 : Int64.ofInt a = Int64.ofInt b ↔ a = b := by rw [← Int64.toInt_inj, ha.eq, hb.eq]
  unfold lg_cmp am_cmp
  simp only [h1, h2]
  split
  · rfl
  · split <;> rfl
theorem e_lcmp {a b : Int} (hd : decode M.2.1 pc = .ok (.lcmp, 1)) (ha : R64 a) (hb0 : R64 b) (kk : Ev G M (pc + 1) ls ((0, am_cmp a b) :: st) μ r μ') : Ev G M pc ls ((1, b) :: (1, a) :: st) μ r μ' :=
  Ev.stk (fun _ _ _ _ _ _ _ _ _ _ _ _ hx hb hI k => W.lcmp hx hb hd (by rw [am_cmp_eq ha hb0]; exact k)) kk
theorem e_dup {v : AV} (hd : decode M.2.1 pc = .ok (.dup, 1)) (hv : v.1 ≠ 1) (kk : Ev G M (pc + 1) ls (v :: v :: st) μ r μ') : Ev G M pc ls (v :: st) μ r μ' :=
  Ev.stk (fun _ _ _ _ _ _ _ _ _ _ _ _ hx hb hI k => lv_dup hx hb hd (by rw [am_cat, if_neg hv]) k) kk
theorem e_pop {v : AV} (hd : decode M.2.1 pc = .ok (.pop, 1)) (hv : v.1 ≠ 1) (kk : Ev G M (pc + 1) ls (st) μ r μ') : Ev G M pc ls (v :: st) μ r μ' :=
  Ev.stk (fun _ _ _ _ _ _ _ _ _ _ _ _ hx hb hI k => lv_pop hx hb hd (by rw [am_cat, if_neg hv]) k) kk
-- branches
theorem am_br_eq {a b : Int} (ha : R32 a) (hb : R32 b) (h : Int32.ofInt a = Int32.ofInt b) : a = b := (am_eq ha hb).mp h
theorem am_bn_eq {a b : Int} (ha : R32 a) (hb : R32 b) (h : ¬ Int32.ofInt a = Int32.ofInt b) : ¬ a = b := fun q => h ((am_eq ha hb).mpr q)
theorem am_br_ne {a b : Int} (ha : R32 a) (hb : R32 b) (h : ¬ Int32.ofInt a = Int32.ofInt b) : ¬ a = b := fun q => h ((am_eq ha hb).mpr q)
theorem am_bn_ne {a b : Int} (ha : R32 a) (hb : R32 b) (h : Int32.ofInt a = Int32.ofInt b) : a = b := (am_eq ha hb).mp h
theorem am_br_lt {a b : Int} (ha : R32 a) (hb : R32 b) (h : Int32.ofInt a < Int32.ofInt b) : a < b := (am_lt ha hb).mp h
theorem am_bn_lt {a b : Int} (ha : R32 a) (hb : R32 b) (h : ¬ Int32.ofInt a < Int32.ofInt b) : b ≤ a := by rw [am_lt ha hb] at h; omega
theorem am_br_ge {a b : Int} (ha : R32 a) (hb : R32 b) (h : Int32.ofInt b ≤ Int32.ofInt a) : b ≤ a := (am_le hb ha).mp h
theorem am_bn_ge {a b : Int} (ha : R32 a) (hb : R32 b) (h : ¬ Int32.ofInt b ≤ Int32.ofInt a) : a < b := by rw [am_le hb ha] at h; omega
theorem am_br_gt {a b : Int} (ha : R32 a) (hb : R32 b) (h : Int32.ofInt b < Int32.ofInt a) : b < a := (am_lt hb ha).mp h
theorem am_bn_gt {a b : Int} (ha : R32 a) (hb : R32 b) (h : ¬ Int32.ofInt b < Int32.ofInt a) : a ≤ b := by rw [am_lt hb ha] at h; omega
theorem am_br_le {a b : Int} (ha : R32 a) (hb : R32 b) (h : Int32.ofInt a ≤ Int32.ofInt b) : a ≤ b := (am_le ha hb).mp h
theorem am_bn_le {a b : Int} (ha : R32 a) (hb : R32 b) (h : ¬ Int32.ofInt a ≤ Int32.ofInt b) : b < a := by rw [am_le ha hb] at h; omega
theorem e_goto {off : Int} {tgt : Nat} (hd : decode M.2.1 pc = .ok (.goto off, 3)) (ht : (pc : Int) + off = (tgt : Int)) (kk : Ev G M tgt ls st μ r μ') : Ev G M pc ls st μ r μ' :=
  Ev.stk (fun _ _ _ _ _ _ _ _ _ _ _ _ hx hb _ k => lv_goto hx hb hd ht k) kk
theorem e_icmp_eq {a b off : Int} {tgt : Nat} (hd : decode M.2.1 pc = .ok (.if_icmp .eq off, 3)) (ht : (pc : Int) + off = (tgt : Int)) (ha : R32 a) (hb0 : R32 b) (kt : a = b → Ev G M tgt ls st μ r μ') (kf : ¬ a = b → Ev G M (pc + 3) ls st μ r μ') : Ev G M pc ls ((0, b) :: (0, a) :: st) μ r μ' :=
  fun p e s m args below meth c H locs lsA hI => lv_icmp_eq hI.1.1 hI.1.2.1 hd ht (fun h => kt (am_br_eq ha hb0 h) p e s m args below meth c H locs lsA hI) (fun h => kf (am_bn_eq ha hb0 h) p e s m args below meth c H locs lsA hI)
theorem e_if_eq {a off : Int} {tgt : Nat} (hd : decode M.2.1 pc = .ok (.ifCond .eq off, 3)) (ht : (pc : Int) + off = (tgt : Int)) (ha : R32 a) (kt : a = 0 → Ev G M tgt ls st μ r μ') (kf : ¬ a = 0 → Ev G M (pc + 3) ls st μ r μ') : Ev G M pc ls ((0, a) :: st) μ r μ' :=
  fun p e s m args below meth c H locs lsA hI => lv_if_eq hI.1.1 hI.1.2.1 hd ht (fun h => kt (am_br_eq ha R32.zero h) p e s m args below meth c H locs lsA hI) (fun h => kf (am_bn_eq ha R32.zero h) p e s m args below meth c H locs lsA hI)
theorem e_icmp_ne {a b off : Int} {tgt : Nat} (hd : decode M.2.1 pc = .ok (.if_icmp .ne off, 3)) (ht : (pc : Int) + off = (tgt : Int)) (ha : R32 a) (hb0 : R32 b) (kt : ¬ a = b → Ev G M tgt ls st μ r μ') (kf : a = b → Ev G M (pc + 3) ls st μ r μ') : Ev G M pc ls ((0, b) :: (0, a) :: st) μ r μ' :=
  fun p e s m args below meth c H locs lsA hI => lv_icmp_ne hI.1.1 hI.1.2.1 hd ht (fun h => kt (am_br_ne ha hb0 h) p e s m args below meth c H locs lsA hI) (fun h => kf (am_bn_ne ha hb0 h) p e s m args below meth c H locs lsA hI)
theorem e_if_ne {a off : Int} {tgt : Nat} (hd : decode M.2.1 pc = .ok (.ifCond .ne off, 3)) (ht : (pc : Int) + off = (tgt : Int)) (ha : R32 a) (kt : ¬ a = 0 → Ev G M tgt ls st μ r μ') (kf : a = 0 → Ev G M (pc + 3) ls st μ r μ') : Ev G M pc ls ((0, a) :: st) μ r μ' :=
  fun p e s m args below meth c H locs lsA hI => lv_if_ne hI.1.1 hI.1.2.1 hd ht (fun h => kt (am_br_ne ha R32.zero h) p e s m args below meth c H locs lsA hI) (fun h => kf (am_bn_ne ha R32.zero h) p e s m args below meth c H locs lsA hI)
theorem e_icmp_lt {a b off : Int} {tgt : Nat} (hd : decode M.2.1 pc = .ok (.if_icmp .lt off, 3)) (ht : (pc : Int) + off = (tgt : Int)) (ha : R32 a) (hb0 : R32 b) (kt : a < b → Ev G M tgt ls st μ r μ') (kf : b ≤ a → Ev G M (pc + 3) ls st μ r μ') : Ev G M pc ls ((0, b) :: (0, a) :: st) μ r μ' :=
  fun p e s m args below meth c H locs lsA hI => lv_icmp_lt hI.1.1 hI.1.2.1 hd ht (fun h => kt (am_br_lt ha hb0 h) p e s m args below meth c H locs lsA hI) (fun h => kf (am_bn_lt ha hb0 h) p e s m args below meth c H locs lsA hI)
theorem e_if_lt {a off : Int} {tgt : Nat} (hd : decode M.2.1 pc = .ok (.ifCond .lt off, 3)) (ht : (pc : Int) + off = (tgt : Int)) (ha : R32 a) (kt : a < 0 → Ev G M tgt ls st μ r μ') (kf : 0 ≤ a → Ev G M (pc + 3) ls st μ r μ') : Ev G M pc ls ((0, a) :: st) μ r μ' :=
  fun p e s m args below meth c H locs lsA hI => lv_if_lt hI.1.1 hI.1.2.1 hd ht (fun h => kt (am_br_lt ha R32.zero h) p e s m args below meth c H locs lsA hI) (fun h => kf (am_bn_lt ha R32.zero h) p e s m args below meth c H locs lsA hI)
theorem e_icmp_ge {a b off : Int} {tgt : Nat} (hd : decode M.2.1 pc = .ok (.if_icmp .ge off, 3)) (ht : (pc : Int) + off = (tgt : Int)) (ha : R32 a) (hb0 : R32 b) (kt : b ≤ a → Ev G M tgt ls st μ r μ') (kf : a < b → Ev G M (pc + 3) ls st μ r μ') : Ev G M pc ls ((0, b) :: (0, a) :: st) μ r μ' :=
  fun p e s m args below meth c H locs lsA hI => lv_icmp_ge hI.1.1 hI.1.2.1 hd ht (fun h => kt (am_br_ge ha hb0 h) p e s m args below meth c H locs lsA hI) (fun h => kf (am_bn_ge ha hb0 h) p e s m args below meth c H locs lsA hI)
theorem e_if_ge {a off : Int} {tgt : Nat} (hd : decode M.2.1 pc = .ok (.ifCond .ge off, 3)) (ht : (pc : Int) + off = (tgt : Int)) (ha : R32 a) (kt : 0 ≤ a → Ev G M tgt ls st μ r μ') (kf : a < 0 → Ev G M (pc + 3) ls st μ r μ') : Ev G M pc ls ((0, a) :: st) μ r μ' :=
  fun p e s m args below meth c H locs lsA hI => lv_if_ge hI.1.1 hI.1.2.1 hd ht (fun h => kt (am_br_ge ha R32.zero h) p e s m args below meth c H locs lsA hI) (fun h => kf (am_bn_ge ha R32.zero h) p e s m args below meth c H locs lsA hI)
theorem e_icmp_gt {a b off : Int} {tgt : Nat} (hd : decode M.2.1 pc = .ok (.if_icmp .gt off, 3)) (ht : (pc : Int) + off = (tgt : Int)) (ha : R32 a) (hb0 : R32 b) (kt : b < a → Ev G M tgt ls st μ r μ') (kf : a ≤ b → Ev G M (pc + 3) ls st μ r μ') : Ev G M pc ls ((0, b) :: (0, a) :: st) μ r μ' :=
  fun p e s m args below meth c H locs lsA hI => lv_icmp_gt hI.1.1 hI.1.2.1 hd ht (fun h => kt (am_br_gt ha hb0 h) p e s m args below meth c H locs lsA hI) (fun h => kf (am_bn_gt ha hb0 h) p e s m args below meth c H locs lsA hI)
theorem e_if_gt {a off : Int} {tgt : Nat} (hd : decode M.2.1 pc = .ok (.ifCond .gt off, 3)) (ht : (pc : Int) + off = (tgt : Int)) (ha : R32 a) (kt : 0 < a → Ev G M tgt ls st μ r μ') (kf : a ≤ 0 → Ev G M (pc + 3) ls st μ r μ') : Ev G M pc ls ((0, a) :: st) μ r μ' :=
  fun p e s m args below meth c H locs lsA hI => lv_if_gt hI.1.1 hI.1.2.1 hd ht (fun h => kt (am_br_gt ha R32.zero h) p e s m args below meth c H locs lsA hI) (fun h => kf (am_bn_gt ha R32.zero h) p e s m args below meth c H locs lsA hI)
theorem e_icmp_le {a b off : Int} {tgt : Nat} (hd : decode M.2.1 pc = .ok (.if_icmp .le off, 3)) (ht : (pc : Int) + off = (tgt : Int)) (ha : R32 a) (hb0 : R32 b) (kt : a ≤ b → Ev G M tgt ls st μ r μ') (kf : b < a → Ev G M (pc + 3) ls st μ r μ') : Ev G M pc ls ((0, b) :: (0, a) :: st) μ r μ' :=
  fun p e s m args below meth c H locs lsA hI => lv_icmp_le hI.1.1 hI.1.2.1 hd ht (fun h => kt (am_br_le ha hb0 h) p e s m args below meth c H locs lsA hI) (fun h => kf (am_bn_le ha hb0 h) p e s m args below meth c H locs lsA hI)
theorem e_if_le {a off : Int} {tgt : Nat} (hd : decode M.2.1 pc = .ok (.ifCond .le off, 3)) (ht : (pc : Int) + off = (tgt : Int)) (ha : R32 a) (kt : a ≤ 0 → Ev G M tgt ls st μ r μ') (kf : 0 < a → Ev G M (pc + 3) ls st μ r μ') : Ev G M pc ls ((0, a) :: st) μ r μ' :=
  fun p e s m args below meth c H locs lsA hI => lv_if_le hI.1.1 hI.1.2.1 hd ht (fun h => kt (am_br_le ha R32.zero h) p e s m args below meth c H locs lsA hI) (fun h => kf (am_bn_le ha R32.zero h) p e s m args below meth c H locs lsA hI)

theorem e_tableOut {a dflt lo hi : Int} {offs : Array Int} {len tgt : Nat} (hd : decode M.2.1 pc = .ok (.tableswitch dflt lo hi offs, len)) (ha : R32 a) (h : a < lo ∨ hi < a) (ht : (pc : Int) + dflt = (tgt : Int)) (kk : Ev G M tgt ls st μ r μ') : Ev G M pc ls ((0, a) :: st) μ r μ' :=
  Ev.stk (fun _ _ _ _ _ _ _ _ _ _ _ _ hx hb _ k => lv_tableOut hx hb hd (by rw [ha.eq]; exact h) ht k) kk
theorem e_tableIn {a dflt lo hi off : Int} {offs : Array Int} {len tgt : Nat} (hd : decode M.2.1 pc = .ok (.tableswitch dflt lo hi offs, len)) (ha : R32 a) (h1 : ¬ a < lo) (h2 : ¬ hi < a) (ho : offs[(a - lo).toNat]? = some off) (ht : (pc : Int) + off = (tgt : Int)) (kk : Ev G M tgt ls st μ r μ') : Ev G M pc ls ((0, a) :: st) μ r μ' :=
  Ev.stk (fun _ _ _ _ _ _ _ _ _ _ _ _ hx hb _ k => lv_tableIn hx hb hd (by rw [ha.eq]; exact h1) (by rw [ha.eq]; exact h2) (by rw [ha.eq]; exact ho) ht k) kk
theorem e_lookup {a dflt off : Int} {ps : Array (Int × Int)} {len tgt : Nat} (hd : decode M.2.1 pc = .ok (.lookupswitch dflt ps, len)) (hp : (ps.toList.zip (ps.toList.drop 1)).all (fun (a, next) => a.1 < next.1) = true) (ha : R32 a) (ho : Op.lookupswitch.offset ps.toList dflt a = off) (ht : (pc : Int) + off = (tgt : Int)) (kk : Ev G M tgt ls st μ r μ') : Ev G M pc ls ((0, a) :: st) μ r μ' :=
  Ev.stk (fun _ _ _ _ _ _ _ _ _ _ _ _ hx hb _ k => lv_lookup hx hb hd hp (by rw [ha.eq]; exact ho) ht k) kk
-- ends
theorem e_ireturn {a : Int} (hd : decode M.2.1 pc = .ok (.ireturn, 1)) (hr : M.2.2.2.1 = some .int) : Ev G M pc ls [(0, a)] μ (some (0, a)) μ :=
  fun p e s m args below meth c H locs lsA hI => W.iret (v := Int32.ofInt a) hI.1.1 hI.1.2.1 (hI.1.2.2.2.2.2.1.trans hr) (fun t ht hW => ⟨⟨rfl, by rw [ht]; exact hI.2.2.1, va_K.moved hW.alike hI.2.1⟩, hI.2.2.2.2.1.F ht⟩) hI.2.2.2.2.1.2.2 hd hI.1.2.2.2.2.2.2
theorem e_zreturn {a : Int} (hd : decode M.2.1 pc = .ok (.ireturn, 1)) (hr : M.2.2.2.1 = some .boolean) (ha : a = 0 ∨ a = 1) : Ev G M pc ls [(0, a)] μ (some (0, a)) μ :=
  fun p e s m args below meth c H locs lsA hI => W.zret (v := Int32.ofInt a) hI.1.1 hI.1.2.1 (hI.1.2.2.2.2.2.1.trans hr) (by rcases ha with rfl | rfl <;> decide) (fun t ht hW => ⟨⟨rfl, by rw [ht]; exact hI.2.2.1, va_K.moved hW.alike hI.2.1⟩, hI.2.2.2.2.1.F ht⟩) hI.2.2.2.2.1.2.2 hd hI.1.2.2.2.2.2.2
theorem e_lreturn {a : Int} (hd : decode M.2.1 pc = .ok (.lreturn, 1)) (hr : M.2.2.2.1 = some .long) : Ev G M pc ls [(1, a)] μ (some (1, a)) μ :=
  fun p e s m args below meth c H locs lsA hI => W.lret (v := Int64.ofInt a) hI.1.1 hI.1.2.1 (hI.1.2.2.2.2.2.1.trans hr) (fun t ht hW => ⟨⟨rfl, by rw [ht]; exact hI.2.2.1, va_K.moved hW.alike hI.2.1⟩, hI.2.2.2.2.1.F ht⟩) hI.2.2.2.2.1.2.2 hd hI.1.2.2.2.2.2.2
theorem e_return (hd : decode M.2.1 pc = .ok (.return_, 1)) (hr : M.2.2.2.1 = none) : Ev G M pc ls [] μ none μ :=
  fun p e s m args below meth c H locs lsA hI => W.vret hI.1.1 hI.1.2.1 (hI.1.2.2.2.2.2.1.trans hr) (fun t ht hW => ⟨⟨rfl, by rw [ht]; exact hI.2.2.1, va_K.moved hW.alike hI.2.1⟩, hI.2.2.2.2.1.F ht⟩) hI.2.2.2.2.1.2.2 hd hI.1.2.2.2.2.2.2
end EvRows
