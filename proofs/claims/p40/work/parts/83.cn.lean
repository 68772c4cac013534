/-! ===== Constructors: worlds that grow, at addresses that come ===== -/
def cn_tys (cA : Nat → ClassId) : List (ClassId × FieldType) := [(cA 0, .int), (cA 1, .boolean), (cA 2, .byte), (cA 3, .long)]
/-- the constructors that nest mates alone may call -/
def cn_nest : List (Nat × MethodName) := [(9, yX5_init), (18, yX1_init), (25, yX0_init), (32, yX6_init), (39, yX4_init)]
/-- what constructors stand on beside their world: the texts and statics that the reader's methods want, the nest's links -/
def cn_E (G : AG) (A : Nat → Prop) (U : State) (H : Heap) : Prop := am_E0 G A U H ∧ am_Tx G U ∧ ∀ q ∈ cn_nest, va_Nw (.methodLinkNest "BeamSetter" q.1 q.2 "BeamSetter") U
theorem cn_E.to {G : AG} {A B : Nat → Prop} {s U : State} {H H0 : Heap} {locs : List Loc} (h : cn_E G A s H0) (hS : va_S A H0 H locs) (hW : s.WarmedH U.vm) (hAB : ∀ q, B q → A q) : cn_E G B U H :=
  ⟨((h.1.kept hS.2.1).moved hW.alike).narrow hAB, fun i q hq => vk_R.warm hW (h.2.1 i q hq), fun q hq => va_Nw.warmM hW (h.2.2 q hq)⟩
/-- a frame of a constructor: its world ws, the cells A that it may change -/
def cn_In (G : AG) (cA : Nat → ClassId) (A : Nat → Prop) (M : AMeth) (p : Program) (s : State) (m : MethodId) (args : Array Value) (meth : Method) (c : Code) (H : Heap) (locs : List Loc) (lsA : Array Slot) (lv : List (Nat × Value)) (ws : va_W) : Prop :=
  am_X M p s m args meth c ∧ (M.1.name = "<init>" → meth.name = "<init>") ∧ va_K (gD G) vwCl (cn_tys cA) s ∧ va_P (gD G) vwCl ws H ∧ va_D A ws ∧ va_S A s.heap H locs ∧ (∀ q, s.heap.size ≤ q → A q) ∧ cn_E G A s s.heap ∧ lv_has lsA M.2.2.1 lv
def Cn (G : AG) (cA : Nat → ClassId) (A : Nat → Prop) (M : AMeth) (R : Room) (p : Program) (e : Env) (s : State) (m : MethodId) (args : Array Value) (below : List Frame) (meth : Method) (c : Code) (Q : State → Prop) (lsA : Array Slot) (lv : List (Nat × Value)) (cells slots : Nat) (pc : Nat) (st : List Value) (ws : va_W) : Prop :=
  ∀ (H : Heap) (locs : List Loc), cn_In G cA A M p s m args meth c H locs lsA lv ws → W p (gL G) e R s m args below meth c H locs cells slots Q (F0 m pc lsA st)
def cn_Fp (M : AMeth) (pc ci k : Nat) (fin : Bool) : Prop := ∃ (idx : Nat) (q : vw_C), decode M.2.1 pc = .ok (.putfield idx, 3) ∧ vwCl[ci]? = some q ∧ k < q.2.2 ∧ Cond.fieldLink M.1.cls idx (q.2.1 k).1 (q.2.1 k).2.1 (q.2.1 k).2.2.1 ∈ TW ∧ (q.2.1 k).2.2.2 = fin ∧ (q.2.1 k).1 = M.1.cls ∧ (fin = true → M.1.name = "<init>")
section Cns
variable {G : AG} {cA : Nat → ClassId} {A : Nat → Prop} {M : AMeth} {R : Room} {p : Program} {e : Env} {s : State} {m : MethodId} {args : Array Value} {below : List Frame} {meth : Method} {c : Code} {Q : State → Prop} {lsA : Array Slot} {lv : List (Nat × Value)} {cells slots pc : Nat} {st : List Value} {ws : va_W}
theorem n_aload {k : Fin 4} {i j a : Nat} (hd : decode M.2.1 pc = .ok (.aload_n k, 1)) (hi : (k : Nat) = i) (hl : lv[j]? = some (i, .ref a)) (kk : Cn G cA A M R p e s m args below meth c Q lsA lv cells slots (pc + 1) (.ref a :: st) ws) : Cn G cA A M R p e s m args below meth c Q lsA lv cells slots pc st ws :=
  fun H locs h => lv_aload_n h.1.1 h.1.2.1 hd hi (lv_at h.2.2.2.2.2.2.2.2 j hl) (kk H locs h)
theorem n_iconst {n : Int} {v : Int32} (hd : decode M.2.1 pc = .ok (.iconst n, 1)) (hv : Int32.ofInt n = v) (kk : Cn G cA A M R p e s m args below meth c Q lsA lv cells slots (pc + 1) (.int v :: st) ws) : Cn G cA A M R p e s m args below meth c Q lsA lv cells slots pc st ws :=
  fun H locs h => lv_iconst h.1.1 h.1.2.1 hd hv (kk H locs h)
theorem n_bipush {n : Int} {v : Int32} (hd : decode M.2.1 pc = .ok (.bipush n, 2)) (hv : (Int8.ofInt n).toInt32 = v) (kk : Cn G cA A M R p e s m args below meth c Q lsA lv cells slots (pc + 2) (.int v :: st) ws) : Cn G cA A M R p e s m args below meth c Q lsA lv cells slots pc st ws :=
  fun H locs h => lv_bipush h.1.1 h.1.2.1 hd hv (kk H locs h)
theorem n_sipush {n : Int} {v : Int32} (hd : decode M.2.1 pc = .ok (.sipush n, 3)) (hv : (Int16.ofInt n).toInt32 = v) (kk : Cn G cA A M R p e s m args below meth c Q lsA lv cells slots (pc + 3) (.int v :: st) ws) : Cn G cA A M R p e s m args below meth c Q lsA lv cells slots pc st ws :=
  fun H locs h => lv_sipush h.1.1 h.1.2.1 hd hv (kk H locs h)
theorem n_dup {v : Value} (hd : decode M.2.1 pc = .ok (.dup, 1)) (hv : v.category = 1) (kk : Cn G cA A M R p e s m args below meth c Q lsA lv cells slots (pc + 1) (v :: v :: st) ws) : Cn G cA A M R p e s m args below meth c Q lsA lv cells slots pc (v :: st) ws :=
  fun H locs h => lv_dup h.1.1 h.1.2.1 hd hv (kk H locs h)
theorem n_obj {idx a : Nat} (hd : decode M.2.1 pc = .ok (.invokespecial idx, 3)) (h1 : Cond.methodLink M.1.cls idx Lib.objectInit ∈ TW) (h2 : Cond.instanceMethod Lib.objectInit ∈ TW) (h3 : Cond.code Lib.objectInit ⟨#[0xb1]⟩ 1 none ∈ TW) (hR : 1 ≤ R.frames ∧ (st.map fun v => v.category).sum + 12 ≤ R.locals) (kk : Cn G cA A M R p e s m args below meth c Q lsA lv cells slots (pc + 3) st ws) : Cn G cA A M R p e s m args below meth c Q lsA lv cells slots pc (.ref a :: st) ws := by
  intro H locs h
  refine W.objInit h.1.1 h.1.2.1 h.1.2.2.2.1 (h.1.2.2.2.2.1 _ h1) (h.1.2.2.2.2.1 _ h2) (h.1.2.2.2.2.1 _ h3) rfl (by rw [h.1.2.2.1]; exact h.2.2.2.2.2.2.2.2.1) rfl hd hR.1 (by show 2 * 0 + _ + 12 ≤ _; omega) ?_
  exact kk H locs h
theorem n_newa {atype : ArrayType} {ty : FieldType} {t N : Nat} {n : Int32} {a0 : vp_A} (hd : decode M.2.1 pc = .ok (.newarray atype, 2)) (hty : newarray.typeOf atype = ty) (hw : Cond.arrayClass (newarray.typeOf atype) ∈ TW) (ht : (cn_tys cA)[t]? = some (cA t, ty))
    (hra : ∀ (U : State) (cx : ClassId), va_RA U cx ty → U.vm.findClass ("[" ++ ty.toString) = some cx) (ha : ∀ cx : ClassId, vp_cell cx a0 = arrV cx N (fun _ => defaultValue ty)) (hn : ¬ n < 0) (hN : n.toNatClampNeg = N) (hb : N * componentBytes ty ≤ 536870912) (hc : cells + 1 ≤ R.cells) (hs : slots + N ≤ R.slots)
    (kk : ∀ q : Nat, Cn G cA A M R p e s m args below meth c Q lsA lv (cells + 1) (slots + N) (pc + 2) (.ref q :: st) (ws ++ [(q, .inl (cA t, a0))])) : Cn G cA A M R p e s m args below meth c Q lsA lv cells slots pc (.int n :: st) ws := by
  intro H locs h
  obtain ⟨hX, hm, hK, hP, hD, hS, hA, hE, hl⟩ := h
  refine va_newa hX.1 hX.2.1 (hX.2.2.2.2.1 _ hw) hty hK hP hD hS hA ha hn hN hb hc hs hd (fun q cx H1 hK1 hP1 hD1 hS1 => ?_)
  have e1 : cx = cA t := Option.some.inj ((hra s cx (hK1.2 4 (cx, ty) rfl).2).symm.trans (hra s (cA t) (hK.2 t _ ht).2))
  subst e1
  exact kk q H1 locs ⟨hX, hm, hK, hP1, hD1, hS1, hA, hE, hl⟩
theorem n_putF {ci k j0 a : Nat} {fs : List Value} {v : Value} (hf : cn_Fp M pc ci k true) (he : ws[j0]? = some (a, .inr (ci, fs))) (hl : k < fs.length) (hnar : narrow (am_cty ci k) v = v) (hfit : fits (am_cty ci k) v = true) (kk : Cn G cA A M R p e s m args below meth c Q lsA lv cells slots (pc + 3) st (ws.set j0 (a, .inr (ci, fs.set k v)))) : Cn G cA A M R p e s m args below meth c Q lsA lv cells slots pc (v :: .ref a :: st) ws := by
  obtain ⟨idx, ⟨C, T, N⟩, hd, hc, hk, hw, hfin, hdecl, hini⟩ := hf
  obtain ⟨hin, hpa, hnm, hN, hci⟩ := am_cls ci _ hc
  intro H locs h
  obtain ⟨hX, hm, hK, hP, hD, hS, hA, hE, hls⟩ := h
  exact va_putF (ref := (T k).1) hX.1 hX.2.1 hX.2.2.2.2.1 hin (am_cty ci) hpa hnm hX.2.2.2.1 hK hP hD hS j0 he hc k hk (hX.2.2.2.2.1 _ hw) (fun _ h => h) hfin (hm (hini rfl)) hdecl (hpa k hk) hnar hfit hl hd (fun H1 locs1 hP1 hD1 hS1 => kk H1 locs1 ⟨hX, hm, hK, hP1, hD1, hS1, hA, hE, hls⟩)
theorem n_put {ci k j0 a : Nat} {fs : List Value} {v : Value} (hf : cn_Fp M pc ci k false) (he : ws[j0]? = some (a, .inr (ci, fs))) (hl : k < fs.length) (hnar : narrow (am_cty ci k) v = v) (hfit : fits (am_cty ci k) v = true) (kk : Cn G cA A M R p e s m args below meth c Q lsA lv cells slots (pc + 3) st (ws.set j0 (a, .inr (ci, fs.set k v)))) : Cn G cA A M R p e s m args below meth c Q lsA lv cells slots pc (v :: .ref a :: st) ws := by
  obtain ⟨idx, ⟨C, T, N⟩, hd, hc, hk, hw, hfin, hdecl, hini⟩ := hf
  obtain ⟨hin, hpa, hnm, hN, hci⟩ := am_cls ci _ hc
  intro H locs h
  obtain ⟨hX, hm, hK, hP, hD, hS, hA, hE, hls⟩ := h
  exact va_put (ref := (T k).1) hX.1 hX.2.1 hX.2.2.2.2.1 hin (am_cty ci) hpa hnm hX.2.2.2.1 hK hP hD hS j0 he hc k hk (hX.2.2.2.2.1 _ hw) (fun _ h => h) hfin (hpa k hk) hnar hfit hl hd (fun H1 locs1 hP1 hD1 hS1 => kk H1 locs1 ⟨hX, hm, hK, hP1, hD1, hS1, hA, hE, hls⟩)
theorem n_get {ci k j0 a : Nat} {fs : List Value} {v : Value} (hf : am_Fg M pc ci k) (he : ws[j0]? = some (a, .inr (ci, fs))) (hv : fs[k]? = some v) (kk : Cn G cA A M R p e s m args below meth c Q lsA lv cells slots (pc + 3) (v :: st) ws) : Cn G cA A M R p e s m args below meth c Q lsA lv cells slots pc (.ref a :: st) ws := by
  obtain ⟨idx, ⟨C, T, N⟩, hd, hc, hk, hw⟩ := hf
  obtain ⟨hin, hpa, hnm, hN, hci⟩ := am_cls ci _ hc
  intro H locs h
  exact va_get (ref := (T k).1) h.1.1 h.1.2.1 h.1.2.2.2.2.1 hin h.1.2.2.2.1 h.2.2.1 h.2.2.2.1 j0 he hc k hk (h.1.2.2.2.2.1 _ hw) (fun _ h => h) hv hd (kk H locs h)
theorem n_iast {j0 a N : Nat} {f : Nat → Int32} {i v : Int32} (hd : decode M.2.1 pc = .ok (.iastore, 1)) (he : ws[j0]? = some (a, .inl (cA 0, N, .inl f))) (hin : vp_in i N) (kk : Cn G cA A M R p e s m args below meth c Q lsA lv cells slots (pc + 1) st (ws.set j0 (a, .inl (cA 0, N, .inl (upd f i.toNatClampNeg v))))) : Cn G cA A M R p e s m args below meth c Q lsA lv cells slots pc (.int v :: .int i :: .ref a :: st) ws := by
  intro H locs h
  obtain ⟨hX, hm, hK, hP, hD, hS, hA, hE, hls⟩ := h
  exact va_iast hX.1 hX.2.1 hK hP hD hS j0 0 he rfl hin hd (fun H1 locs1 hP1 hD1 hS1 => kk H1 locs1 ⟨hX, hm, hK, hP1, hD1, hS1, hA, hE, hls⟩)
theorem n_new {ci idx N : Nat} {C : String} {T : u_T} {fs : List Value} (hd : decode M.2.1 pc = .ok (.new idx, 3)) (hc : vwCl[ci]? = some (C, T, N)) (h1 : Cond.classLink M.1.cls idx C ∈ TW) (h2 : Cond.instantiable C N ∈ TW) (h3 : Cond.initialized C ∈ TW) (hfs : ∀ j, j < N → defaultValue (am_cty ci j) = vp_V fs j) (hcl : cells + 1 ≤ R.cells) (hs : slots + N ≤ R.slots)
    (kk : ∀ q : Nat, Cn G cA A M R p e s m args below meth c Q lsA lv (cells + 1) (slots + N) (pc + 3) (.ref q :: st) (ws ++ [(q, .inr (ci, fs))])) : Cn G cA A M R p e s m args below meth c Q lsA lv cells slots pc st ws := by
  intro H locs h
  obtain ⟨hX, hm, hK, hP, hD, hS, hA, hE, hl⟩ := h
  obtain ⟨hin, hpa, hnm, hN, hci⟩ := am_cls ci _ hc
  exact va_new hX.1 hX.2.1 hX.2.2.2.2.1 hin (am_cty ci) hpa hX.2.2.2.1 (hX.2.2.2.2.1 _ h1) (hX.2.2.2.2.1 _ h2) (hX.2.2.2.2.1 _ h3) hK hP hD hS hA hc hfs hcl hs hd (fun q H1 hP1 hD1 hS1 => kk q H1 locs ⟨hX, hm, hK, hP1, hD1, hS1, hA, hE, hl⟩)
theorem n_astore {k : Fin 4} {i a : Nat} {lv' : List (Nat × Value)} (hd : decode M.2.1 pc = .ok (.astore_n k, 1)) (hi : (k : Nat) = i) (hn : i < M.2.2.1) (hl : (i, Value.ref a) :: lv.filter (fun q => !(q.1 == i) && !(q.1 + 1 == i && q.2.category == 2)) = lv') (kk : ∀ lsB : Array Slot, Cn G cA A M R p e s m args below meth c Q lsB lv' cells slots (pc + 1) st ws) : Cn G cA A M R p e s m args below meth c Q lsA lv cells slots pc (.ref a :: st) ws := by
  intro H locs h
  obtain ⟨hX, hm, hK, hP, hD, hS, hA, hE, hls⟩ := h
  exact lv_astore_n hX.1 hX.2.1 hd hi hls hn hl (fun ls' h' => kk ls' H locs ⟨hX, hm, hK, hP, hD, hS, hA, hE, h'⟩)
theorem n_istore {i : Nat} {v : Int32} {lv' : List (Nat × Value)} (hd : decode M.2.1 pc = .ok (.istore i, 2)) (hn : i < M.2.2.1) (hl : (i, Value.int v) :: lv.filter (fun q => !(q.1 == i) && !(q.1 + 1 == i && q.2.category == 2)) = lv') (kk : ∀ lsB : Array Slot, Cn G cA A M R p e s m args below meth c Q lsB lv' cells slots (pc + 2) st ws) : Cn G cA A M R p e s m args below meth c Q lsA lv cells slots pc (.int v :: st) ws := by
  intro H locs h
  obtain ⟨hX, hm, hK, hP, hD, hS, hA, hE, hls⟩ := h
  exact lv_istore hX.1 hX.2.1 hd hls hn hl (fun ls' h' => kk ls' H locs ⟨hX, hm, hK, hP, hD, hS, hA, hE, h'⟩)
end Cns
/-- a constructor's start and end -/
def cn_Pc (G : AG) (cA : Nat → ClassId) (h0 : Nat) (xa : List Value) (ci : Nat) (d : List Value) (sz : Nat) : Array Value → State → Prop :=
  va_Pc (.ref h0 :: xa) (fun U => (U.heap.size = sz ∧ va_P (gD G) vwCl [(h0, .inr (ci, d))] U.heap ∧ va_K (gD G) vwCl (cn_tys cA) U ∧ va_D (fun _ => True) [(h0, .inr (ci, d))]) ∧ cn_E G (va_A [(h0, .inr (ci, d))] sz) U U.heap)
def cn_Q {S : Type} (G : AG) (cA : Nat → ClassId) (h0 ci : Nat) (d : List Value) (post : S → Prop) (wc : S → va_W) (sz : Nat) : Array Value → State → Outcome → State → Prop :=
  va_Qv post (fun f t => va_P (gD G) vwCl (wc f) t.heap ∧ va_K (gD G) vwCl (cn_tys cA) t ∧ va_D (va_A [(h0, .inr (ci, d))] sz) (wc f)) (va_A [(h0, .inr (ci, d))] sz)
theorem cn_blind {G : AG} {cA : Nat → ClassId} {h0 : Nat} {xa : List Value} {ci : Nat} {d : List Value} {sz : Nat} : FrameBlind (cn_Pc G cA h0 xa ci d sz) := by
  intro a U g mk q
  obtain ⟨q0, ⟨q1, qP, qK, qD⟩, qE, qT, qN⟩ := q
  exact ⟨q0, ⟨q1, qP, va_K.moved (u := U) (U := U.calling g mk a) (Vm.Alike.refl U.vm) qK, qD⟩, am_E0.moved (u := U) (U := U.calling g mk a) (Vm.Alike.refl U.vm) qE, fun i q hq => vk_R.same (u := U) (U := U.calling g mk a) rfl (qT i q hq), fun q hq => va_Nw.same rfl (u := U) (U := U.calling g mk a) rfl (qN q hq)⟩
def cn_R (M : AMeth) (mc ms : Nat) : Room := { frames := M.2.2.2.2.1, cells := mc, slots := ms, locals := M.2.2.2.2.2 }
theorem cn_met {S : Type} {G : AG} {cA : Nat → ClassId} {M : AMeth} {h0 : Nat} {xa : List Value} {ci mc ms : Nat} {d : List Value} {post : S → Prop} {wc : S → va_W} (hpl : plainFor M.1 = true) (hin : M.1.name = "<init>") (hret : M.2.2.2.1 = none) (hlen : (lg_sl (.ref h0 :: xa)).length ≤ M.2.2.1)
    (h : ∀ (p : Program) (e : Env) (s : State) (m : MethodId) (args : Array Value) (below : List Frame) (meth : Method) (c : Code) (lsA : Array Slot),
      Cn G cA (va_A [(h0, .inr (ci, d))] s.heap.size) M (cn_R M mc ms) p e s m args below meth c (MQ below (cn_Q G cA h0 ci d post wc s.heap.size) args s mc ms (va_A [(h0, .inr (ci, d))] s.heap.size)) lsA (lv_args 0 (.ref h0 :: xa)) 0 0 0 [] [(h0, .inr (ci, d))]) (sz : Nat) :
    Met (gL G) M.1 (am_ws M) (cn_R M mc ms) (cn_Pc G cA h0 xa ci d sz) (cn_Q G cA h0 ci d post wc sz) mc ms (va_A [(h0, .inr (ci, d))] sz) := by
  refine am_ofW (cc := M.2.1) (maxL := M.2.2.1) (ret := M.2.2.2.1) hpl rfl ?_
  intro p e s m args below meth c s₁ B hml hv0
  obtain ⟨rfl, ⟨hsz, hP, hK, hD0⟩, hE⟩ := hv0
  subst hsz
  have hts := atoms_spec (ws := am_ws M) B.pre
  have hl := lv_entry (.ref h0 :: xa) (n := M.2.2.1) hlen
  rw [lg_entry_eq]
  exact h p e s m _ below meth c _ s.heap [] ⟨⟨B.exec, B.bytes, hml, findClass_of_methodNamed B.named, fun w hw => hts w (List.mem_cons_of_mem _ hw), B.returns, B.notSynchronized⟩, fun _ => ((name_of_methodNamed B.named B.method).1).trans hin, hK, hP, hD0.self, va_S.rf, fun q h => Or.inr h, hE, hl⟩
section Cne
variable {G : AG} {cA : Nat → ClassId} {A : Nat → Prop} {M M2 : AMeth} {R : Room} {p : Program} {e : Env} {s : State} {m : MethodId} {args : Array Value} {below : List Frame} {meth : Method} {c : Code} {Q : State → Prop} {lsA : Array Slot} {lv : List (Nat × Value)} {cells slots pc : Nat} {st : List Value} {ws w0 : va_W}
theorem n_ret {S : Type} {h0 ci mc ms : Nat} {d : List Value} {post : S → Prop} {wc : S → va_W} (f : S) (hd : decode M.2.1 pc = .ok (.return_, 1)) (hr : M.2.2.2.1 = none) (hp : post f) (hw : wc f = ws) (h1 : cells ≤ mc) (h2 : slots ≤ ms) :
    Cn G cA (va_A [(h0, .inr (ci, d))] s.heap.size) M R p e s m args below meth c (MQ below (cn_Q G cA h0 ci d post wc s.heap.size) args s mc ms (va_A [(h0, .inr (ci, d))] s.heap.size)) lsA lv cells slots pc [] ws := by
  subst hw
  intro H locs h
  obtain ⟨hX, hm, hK, hP, hD, hS, hA, hE, hl⟩ := h
  refine W.widen h1 h2 (W.vret hX.1 hX.2.1 (hX.2.2.2.2.2.1.trans hr) (fun t ht hW => ⟨⟨f, rfl, hp, by rw [ht]; exact hP, va_K.moved hW.alike hK, hD⟩, hS.F ht⟩) hS.2.2 hd hX.2.2.2.2.2.2)
/-- the last cell of a world, cut out -/
theorem cn_cut {x : Nat × va_E} : [w0.length].map (fun i => (w0 ++ [x])[i]?) = [x].map some := by simp
theorem cn_rest {x : Nat × va_E} : (List.range w0.length).map (fun i => (w0 ++ [x])[i]?) = w0.map some := by
  apply List.ext_getElem?
  intro i
  rw [List.getElem?_map, List.getElem?_map]
  by_cases h : i < w0.length
  · rw [List.getElem?_range h, Option.map_some, List.getElem?_append_left h, List.getElem?_eq_getElem h]
    rfl
  · rw [List.getElem?_eq_none (by simpa using h), List.getElem?_eq_none (by simpa using h)]
    rfl
theorem cn_nd : ∀ (l : List Nat), l.Nodup → va_nd l = true
  | [], _ => rfl
  | a :: l, h => by
    have h1 := List.nodup_cons.mp h
    simp only [va_nd, Bool.and_eq_true, decide_eq_true_eq]
    exact ⟨h1.1, cn_nd l h1.2⟩
/-- behind the call of a constructor -/
theorem n_back {S : Type} {q ci mc ms : Nat} {xa : List Value} {d : List Value} {post : S → Prop} {wc : S → va_W} {H : Heap} {locs : List Loc} {st0 : List Value}
    (h : cn_In G cA A M p s m args meth c H locs lsA lv (w0 ++ [(q, .inr (ci, d))])) (hFc : ∀ x, va_A [(q, .inr (ci, d))] H.size x → A x)
    (hr : va_Run p (gL G) e R s m args below meth c H locs cells slots mc ms (F0 m pc lsA st0) st (cn_Q G cA q ci d post wc H.size (Value.ref q :: xa).toArray) (va_A [(q, .inr (ci, d))] H.size))
    (kk : ∀ f : S, post f → Cn G cA A M R p e s m args below meth c Q lsA lv (cells + mc) (slots + ms) (pc + 3) st (w0 ++ wc f)) :
    W p (gL G) e R s m args below meth c H locs cells slots Q (F0 m pc lsA st0) := by
  obtain ⟨hX, hm, hK, hP, hD, hS, hA, hE, hl⟩ := h
  refine va_callv hr hS (fun x _ h => hFc x h) (fun x h => hFc x h) (fun f t H1 locs1 ht hvm hpost hB hz hk1 hS1 => ?_)
  obtain ⟨hP1, hK1, hD1⟩ := hB
  rw [ht] at hP1
  obtain ⟨hP2, hD2⟩ := va_join (wr := w0) (w1 := wc f) hP hD [w0.length] (List.range w0.length) cn_cut cn_rest (cn_nd _ List.nodup_range) (fun i hi => by have := List.mem_range.mp hi; simp; omega) hk1 hFc hP1 hD1
  exact kk f hpost H1 locs1 ⟨hX, hm, hK, hP2, hD2, hS1, hA, hE, hl⟩
theorem n_pre {q ci : Nat} {xa : List Value} {d : List Value} {H : Heap} {locs : List Loc}
    (h : cn_In G cA A M p s m args meth c H locs lsA lv (w0 ++ [(q, .inr (ci, d))])) : (∀ x, va_A [(q, .inr (ci, d))] H.size x → A x) ∧ PreS s H (cn_Pc G cA q xa ci d H.size) (.ref q :: xa) := by
  obtain ⟨hX, hm, hK, hP, hD, hS, hA, hE, hl⟩ := h
  have hFc := va_free (wc := [(q, .inr (ci, d))]) hD hS hA [w0.length] cn_cut
  have hPc := hP.sub (ws' := [(q, .inr (ci, d))]) [w0.length] (by simp)
  have hDc := hD.sub (ws' := [(q, .inr (ci, d))]) [w0.length] (by simp [va_nd]) (by simp)
  exact ⟨hFc, cn_blind, fun U hU hW => ⟨rfl, ⟨by rw [hU], by rw [hU]; exact hPc, va_K.moved hW.alike hK, hDc.weaken (fun _ _ _ _ => trivial)⟩, by rw [hU]; exact hE.to hS hW hFc⟩⟩
def cn_Ok (M2 : AMeth) (n : Nat) : Prop := Cond.code M2.1 M2.2.1 M2.2.2.1 M2.2.2.2.1 ∈ TW ∧ Cond.instanceMethod M2.1 ∈ TW ∧ Cond.initialized M2.1.cls ∈ TW ∧ M2.1.name = "<init>" ∧ M2.2.2.2.1 = none ∧ (M2.1.cls ≠ "java/lang/invoke/MethodHandle" ∧ M2.1.cls ≠ "java/lang/invoke/VarHandle" ∧ (parseMethodDescriptor M2.1.desc).map (fun d => d.parameters.length) = some n)
theorem cn_good (h : Cond.code M2.1 M2.2.1 M2.2.2.1 M2.2.2.2.1 ∈ TW) : GoodIn TW (am_ws M2) := am_good (fun w hw => by
  rcases List.mem_cons.mp hw with rfl | hw
  · exact h
  · exact hw)
theorem n_callI {S : Type} {q ci mc ms idx n : Nat} {xa : List Value} {d : List Value} {post : S → Prop} {wc : S → va_W} (hd : decode M.2.1 pc = .ok (.invokespecial idx, 3)) (hlink : Cond.methodLink M.1.cls idx M2.1 ∈ TW) (hok : cn_Ok M2 n) (hxa : xa.length = n) (hR : M2.2.2.2.2.1 + 1 ≤ R.frames ∧ 8 + (M2.2.2.1 + 11) + M2.2.2.2.2.2 ≤ R.locals) (hrm : cells + mc ≤ R.cells ∧ slots + ms ≤ R.slots) (hcat : (st.map fun v => v.category).sum ≤ 8)
    (hM : ∀ sz : Nat, Met (gL G) M2.1 (am_ws M2) (cn_R M2 mc ms) (cn_Pc G cA q xa ci d sz) (cn_Q G cA q ci d post wc sz) mc ms (va_A [(q, .inr (ci, d))] sz))
    (kk : ∀ f : S, post f → Cn G cA A M R p e s m args below meth c Q lsA lv (cells + mc) (slots + ms) (pc + 3) st (w0 ++ wc f)) : Cn G cA A M R p e s m args below meth c Q lsA lv cells slots pc (xa.reverse ++ .ref q :: st) (w0 ++ [(q, .inr (ci, d))]) := by
  obtain ⟨hcode, hins, hini, hy1, hret, hdsc⟩ := hok
  intro H locs h
  obtain ⟨hFc, hp⟩ := n_pre (xa := xa) h
  have hX := h.1
  have hts := hX.2.2.2.2.1
  exact n_back h hFc (va_runI (As := xa) (rest := st) ⟨hX.1, hX.2.1, hX.2.2.1, hX.2.2.2.1, hts⟩ (hM H.size) (cwI n hts (cn_good hcode) (by unfold am_ws; rw [hret]) rfl rfl (hts _ hini) (hts _ hlink) (hts _ hins) hy1 hdsc hR) hp rfl hxa h.2.2.2.2.2.2.2.2.1 rfl (lv_room hcat) hd hrm) kk
theorem n_callN {S : Type} {q ci mc ms idx n : Nat} {xa : List Value} {d : List Value} {post : S → Prop} {wc : S → va_W} (hd : decode M.2.1 pc = .ok (.invokespecial idx, 3)) (hcl : M.1.cls = "BeamSetter") (hlink : (idx, M2.1) ∈ cn_nest) (hok : cn_Ok M2 n) (hxa : xa.length = n) (hR : M2.2.2.2.2.1 + 1 ≤ R.frames ∧ 8 + (M2.2.2.1 + 11) + M2.2.2.2.2.2 ≤ R.locals) (hrm : cells + mc ≤ R.cells ∧ slots + ms ≤ R.slots) (hcat : (st.map fun v => v.category).sum ≤ 8)
    (hM : ∀ sz : Nat, Met (gL G) M2.1 (am_ws M2) (cn_R M2 mc ms) (cn_Pc G cA q xa ci d sz) (cn_Q G cA q ci d post wc sz) mc ms (va_A [(q, .inr (ci, d))] sz))
    (kk : ∀ f : S, post f → Cn G cA A M R p e s m args below meth c Q lsA lv (cells + mc) (slots + ms) (pc + 3) st (w0 ++ wc f)) : Cn G cA A M R p e s m args below meth c Q lsA lv cells slots pc (xa.reverse ++ .ref q :: st) (w0 ++ [(q, .inr (ci, d))]) := by
  obtain ⟨hcode, hins, hini, hy1, hret, hdsc⟩ := hok
  intro H locs h
  obtain ⟨hFc, hp⟩ := n_pre (xa := xa) h
  have hX := h.1
  have hts := hX.2.2.2.2.1
  have hnw := h.2.2.2.2.2.2.2.1.2.2 _ hlink
  rw [← hcl] at hnw
  exact n_back h hFc (va_runIN (host := M.1.cls) (As := xa) (rest := st) ⟨hX.1, hX.2.1, hX.2.2.1, hX.2.2.2.1, hts⟩ (hM H.size) ⟨va_cnB n hts (cn_good hcode) (by unfold am_ws; rw [hret]) rfl rfl hnw (hts _ hini) hdsc hR, hy1, hts _ hins⟩ hp rfl hxa h.2.2.2.2.2.2.2.2.1 rfl (lv_room hcat) hd hrm) kk
/-- a call on a piece in its own constructor -/
theorem n_callP {X : AX} {f : Nat → Nat} {μ μ1 : Mu} (hG : G = GG X) (hcA : cA = X.2.1) (hf : g_Cv M pc M2 0) (hcls : M2.1.cls = RX2) (hR : M2.2.2.2.2.1 + 1 ≤ R.frames ∧ 8 + (M2.2.2.1 + 11) + M2.2.2.2.2.2 ≤ R.locals) (hrm : cells ≤ R.cells ∧ slots ≤ R.slots) (hcat : (st.map fun v => v.category).sum ≤ 8) (hl2 : 1 = M2.2.2.1)
    (ev : Ev (GP (X.1, X.2.1, f, X.2.2.2.1, X.2.2.2.2)) M2 0 [(2, 0)] [] μ none μ1)
    (kk : Cn G cA A M R p e s m args below meth c Q lsA lv cells slots (pc + 3) st (am_pic (GP (X.1, X.2.1, f, X.2.2.2.1, X.2.2.2.2)) μ1)) : Cn G cA A M R p e s m args below meth c Q lsA lv cells slots pc (.ref (f 0) :: st) (am_pic (GP (X.1, X.2.1, f, X.2.2.2.1, X.2.2.2.2)) μ) := by
  subst hG; subst hcA
  obtain ⟨idx, hd, hlink, hinst, hsel, hok⟩ := hf
  intro H locs h
  obtain ⟨hX, hm, hK, hP, hD, hS, hA, hE, hl⟩ := id h
  generalize hgp : GP (X.1, X.2.1, f, X.2.2.2.1, X.2.2.2.2) = G' at ev hP hD kk
  have e1 : gD G' = gD (GG X) := by rw [← hgp]; rfl
  have e2 : am_tys G' = cn_tys X.2.1 := by rw [← hgp]; rfl
  have e3 : gL G' = gL (GG X) := by rw [← hgp]; rfl
  have e4 : gK G' = gK (GG X) := by rw [← hgp]; rfl
  have e5 : gA G' 0 = f 0 := by rw [← hgp]; rfl
  have e6 : gX G' = gX (GG X) := by rw [← hgp]; rfl
  have hs0 : (gS G')[0]? = some (2, am_N 2) := by rw [← hgp]; rfl
  have hAA : ∀ q : Nat, am_A G' H.size q → A q := by
    intro q hq
    rcases hq with ⟨o, ho, rfl⟩ | hq
    · exact hD.2 o _ (am_pic_get ho)
    · exact hA q (Nat.le_trans hS.1 hq)
  have hts := hX.2.2.2.2.1
  have hrec := va_recv (q := (RX2, TX2, 17)) hK hP rfl (am_pic_at (G := G') (μ := μ) hs0 (am_el_obj hs0 (by decide)))
  rw [e5] at hrec
  rw [← e3]
  have hrun := va_runV (R := R) (p := p) (e := e) (below := below) (meth := meth) (locs := locs) (cells := cells) (slots := slots) (g := F0 m pc lsA (.ref (f 0) :: st)) (As := []) (rest := st) ⟨hX.1, hX.2.1, hX.2.2.1, hX.2.2.2.1, hts⟩ (am_met (as := [(2, 0)]) (k := 0) hok rfl (by rw [← hl2]; rfl) rfl ev H.size)
    (cwV (C := M2.1.cls) 0 hts (am_good (by
      intro w hw
      rcases List.mem_append.mp hw with h | h
      · simp only [List.mem_cons, List.not_mem_nil, or_false] at h
        rcases h with rfl | rfl | rfl | rfl
        · exact hlink
        · exact hinst
        · exact hsel
        · exact hok.2.1
      · exact am_ws_in hok w h)) rfl rfl rfl ⟨rfl, hok.2.2.2⟩ hR) (b := f 0) ⟨am_Pc_blind, by rw [hcls]; exact hrec, fun U hU hW => ⟨by rw [List.map_cons, am_ref_pos (by omega)]; show (Value.ref (f 0) :: _).toArray = (Value.ref (gA G' 0) :: _).toArray; rw [e5]; rfl, by rw [hU], by rw [hU, e1]; exact hP, by rw [e1, e2]; exact va_K.moved hW.alike hK, hD.weaken (fun _ _ _ _ => trivial), by
        refine ⟨?_, fun i q hq => by rw [e4]; exact vk_R.warm hW (hE.2.1 i q hq)⟩
        have h9 := ((hE.1.kept hS.2.1).moved hW.alike).narrow hAA
        rw [hU]
        unfold am_E0 am_Sc at h9 ⊢
        rw [e4, e6]
        exact h9⟩⟩ rfl rfl hl.1 rfl (lv_room hcat) hd ⟨hrm.1, hrm.2⟩
  intro T hT X0
  obtain ⟨v, st₀, t, T', L, h0, X', hL, q1, q2, ⟨⟨hv, hP1, hK1⟩, hz, hk⟩, stp⟩ := hrun T hT X0
  cases hv
  rw [h0] at hz hk
  obtain ⟨t2, a1, b1⟩ := kk T'.heap (locs ++ L) ⟨hX, hm, hK, by rw [q1, ← e1]; exact hP1, ⟨by
      intro i j x y hx hy hxy
      have gx := (List.getElem?_eq_some_iff.mp hx).1
      have gy := (List.getElem?_eq_some_iff.mp hy).1
      rw [am_pic_len] at gx gy
      rw [am_pic_get gx] at hx
      rw [am_pic_get gy] at hy
      cases hx
      cases hy
      exact hD.1 i j _ _ (am_pic_get gx) (am_pic_get gy) hxy, by
      intro k q hq
      have gx := (List.getElem?_eq_some_iff.mp hq).1
      rw [am_pic_len] at gx
      rw [am_pic_get gx] at hq
      cases hq
      exact hD.2 k (gA G' k, am_el G' μ k) (am_pic_get gx)⟩,
    ⟨Nat.le_trans hS.1 (by rw [q1]; exact hz), fun q h1 h2 => by rw [q1, hk q (Nat.lt_of_lt_of_le h1 hS.1) (fun z => h2 (hAA q z))]; exact hS.2.1 q h1 h2, fun q hq => by
      rcases List.mem_append.mp hq with h | h
      · exact hS.2.2 q h
      · exact hAA _ (hL q h)⟩, hA, hE, hl⟩ T' rfl (by rw [← e3]; exact X')
  exact ⟨t2, stp t2 a1, b1⟩
end Cne
