/-! THE CLAIM OUT OF ONE WALK OF THE LAW'S BODY. Your part is whole_start (and what it stands on); all else here is the same for every law, but numbers. -/
def R_law : String := "BeamSetterLaw"
def lw_P (b : Addr) (xs : List Int32) (args : Array Value) (s : State) : Prop := args = #[.ref b] ∧ s.IntsAt b xs ∧ xs.length ≤ 3072 ∧ (Jvm.Cond.and given_1 narrow_1).before args s = true
def lw_Q (_ : Array Value) (s : State) (o : Outcome) (t : State) : Prop := o = .returned (some (.int 1)) ∧ Framed s o t [] 1103 29613
def lw_Z (below : List Frame) (a : Array Value) (s : State) : State → Prop := fun t => ∃ o, t.status = .running ∧ Ended t below o ∧ lw_Q a s o t
/-- the law's own end, with 1 on the stack, nothing written that was there before, its room as the claim has it -/
theorem lw_ret {p : Program} {l : Launch} {e : Env} {s : State} {m : MethodId} {below : List Frame} {meth : Method} {c : Code} {b : Nat} (hx : p.tables.exec = Jvm.exec) (hb : c.code = code) (hr : meth.sig.returnType = ret) (hlocks : meth.locks = false) {pc : Nat} {H : Heap} {ls : Array Slot} (hdg : decode code pc = .ok (.ireturn, 1)) : W p l e room_1 s m #[Value.ref b] below meth c H [] 1103 29613 (lw_Z below #[Value.ref b] s) (F0 m pc ls [.int 1]) := by
  intro T hT X
  obtain ⟨fs, hret, hrun, hended, hW, hframe⟩ := X.leave (v := some (.int 1)) (hlocks := hlocks) (fun h => by rw [hr] at h; cases h)
  have hmeth' : T.vm.method? m = some meth := X.method'
  refine ⟨T.setFrames fs, ?_, .returned (some (.int 1)), hrun, hended, rfl, ⟨_, rfl⟩, hW, hframe⟩
  jvm_step X.here [X.here.top, hx, hb, hdg, hmeth', hr, ret, narrow_b1]
  (try refine ⟨rfl, ?_⟩); (try refine ⟨rfl, ?_⟩)
  first | (intro acts; rw [hret _ acts rfl rfl rfl]) | rw [hret _ _ rfl rfl rfl]
  exact Steps.refl _
/-- what holds at the law's entry: the machine, the code, the tables' words (any of lw_tbl by 'hts w (by decide +kernel)'), the script of L ints xs at the cell b, what the Statement gives of the start (any of its parts by flat_of_before) -/
def lw_At (p : Program) (s : State) (m : MethodId) (meth : Method) (c : Code) (b L : Nat) (xs : Nat → Int32) : Prop :=
  p.tables.exec = Jvm.exec ∧ c.code = code ∧ meth.sig.returnType = ret ∧ c.maxLocals = 7 ∧ s.vm.findClass R_law = some m.cls ∧ (∀ w ∈ lw_tbl, w.before #[Value.ref b] s = true) ∧ va_X b L xs s s.heap ∧ b < s.heap.size ∧ meth.locks = false ∧ (Jvm.Cond.and given_1 narrow_1).before #[Value.ref b] s = true
def cn_pl (i : Nat) : Nat := [103, 109, 111, 113, 115, 117].getD i 0
def cn_tm (i : Nat) : Term := .string "BeamSetter$Reader" (cn_pl i)
def cn_gk (ak av : Nat → Nat) (f b t1 t2 t3 : Nat) (i : Nat) : Nat := if i < 6 then ak i else if i < 12 then av (i - 6) else if i = 12 then f else if i = 13 then b else if i = 14 then t1 else if i = 15 then t2 else t3
theorem cn_gk_k {ak av : Nat → Nat} {f b t1 t2 t3 i : Nat} (h : i < 6) : cn_gk ak av f b t1 t2 t3 i = ak i := by unfold cn_gk; rw [if_pos h]
theorem cn_gk_v {ak av : Nat → Nat} {f b t1 t2 t3 i : Nat} (h : i < 6) : cn_gk ak av f b t1 t2 t3 (6 + i) = av i := by unfold cn_gk; rw [if_neg (by omega), if_pos (by omega), show 6 + i - 6 = i by omega]
theorem cn_vkS {ak av : Nat → Nat} {f b t1 t2 t3 : Nat} {A : Nat → Prop} {U : State} {H : Heap} (h : vk_S 6 am_lens am_byts ak av A U H) : vk_S 6 am_lens am_byts (cn_gk ak av f b t1 t2 t3) (fun i => cn_gk ak av f b t1 t2 t3 (6 + i)) A U H := by
  refine ⟨fun i hi => ?_, fun i j hi hj e => ?_⟩
  · have h1 := h.1 i hi
    simp only [cn_gk_k hi, cn_gk_v hi]
    exact h1
  · rw [cn_gk_k hi, cn_gk_k hj] at e
    exact h.2 i j hi hj e
theorem cn_kn {s : State} {args : Array Value} (hTW : ∀ w ∈ TW, w.before args s = true) : ∃ D : va_G, ∀ (c : Nat) (q : vw_C), vwCl[c]? = some q → u_Kn s q.1 q.2.1 q.2.2 (D.1 c) (D.2 c) := by
  have h0 : ∀ c : Nat, ∃ d : ClassId × (Nat → Nat), ∀ q : vw_C, vwCl[c]? = some q → u_Kn s q.1 q.2.1 q.2.2 d.1 d.2 := by
    intro c
    match c with
    | 0 => obtain ⟨c, i, h⟩ := u_known hTW tw_X0 (hTW _ k_191); exact ⟨(c, i), fun q hq => by cases hq; exact h⟩
    | 1 => obtain ⟨c, i, h⟩ := u_known hTW tw_X1 (hTW _ k_174); exact ⟨(c, i), fun q hq => by cases hq; exact h⟩
    | 2 => obtain ⟨c, i, h⟩ := u_known hTW tw_X2 (hTW _ k_301); exact ⟨(c, i), fun q hq => by cases hq; exact h⟩
    | 3 => obtain ⟨c, i, h⟩ := u_known hTW tw_X3 (hTW _ k_402); exact ⟨(c, i), fun q hq => by cases hq; exact h⟩
    | 4 => obtain ⟨c, i, h⟩ := u_known hTW tw_X4 (hTW _ k_284); exact ⟨(c, i), fun q hq => by cases hq; exact h⟩
    | 5 => obtain ⟨c, i, h⟩ := u_known hTW tw_X5 (hTW _ k_158); exact ⟨(c, i), fun q hq => by cases hq; exact h⟩
    | 6 => obtain ⟨c, i, h⟩ := u_known hTW tw_X6 (hTW _ k_264); exact ⟨(c, i), fun q hq => by cases hq; exact h⟩
    | 7 => obtain ⟨c, i, h⟩ := u_known hTW tw_X7 (hTW _ k_150); exact ⟨(c, i), fun q hq => by cases hq; exact h⟩
    | 8 => obtain ⟨c, i, h⟩ := u_known hTW tw_X8 (hTW _ k_1278); exact ⟨(c, i), fun q hq => by cases hq; exact h⟩
    | n + 9 => exact ⟨(0, fun _ => 0), fun q hq => by simp [vwCl] at hq⟩
  obtain ⟨g, hg⟩ := Classical.axiomOfChoice h0
  exact ⟨(fun c => (g c).1, fun c => (g c).2), fun c q hq => hg c q hq⟩
theorem cn_arr {s : State} {args : Array Value} {ty : FieldType} (h : (Cond.arrayClass ty).before args s = true) : ∃ c : ClassId, ArrOfT s c ty ∧ s.vm.findClass ("[" ++ ty.toString) = some c := by
  obtain ⟨c, k, co, h1, h2, h3⟩ := Cond.arrayClass_spec h
  exact ⟨c, fun n z => ⟨fun _ h => (by cases h), k, h2, co, h3⟩, h1⟩
theorem cn_str {s : State} {args : Array Value} {t : Term} (h : (Cond.exactly t "java/lang/String").before args s = true) : ∃ a : Nat, t.eval args s none [] s = some (.ref a) := by
  obtain ⟨a, c, cell, k, h1, -⟩ := Cond.exactly_spec (args := args) (first := s) (o := none) (s := s) (idx := []) (t := t) (cls := "java/lang/String") h
  exact ⟨a, h1⟩
theorem cn_fmt {s : State} {args : Array Value} {A : Nat → Prop} (hl : (Cond.laysStatic "jdk/internal/util/Preconditions" "SIOOBE_FORMATTER" "Ljava/util/function/BiFunction;").before args s = true) (hi : (Cond.initialized "jdk/internal/util/Preconditions").before args s = true) (h : (Cond.isRef (.static "jdk/internal/util/Preconditions" "SIOOBE_FORMATTER" "Ljava/util/function/BiFunction;")).before args s = true) (hA : ∀ a : Nat, a < s.heap.size → ¬ A a) :
    ∃ f : Nat, va_Z "jdk/internal/util/Preconditions" "SIOOBE_FORMATTER" "Ljava/util/function/BiFunction;" .null A s s.heap ∨ va_Z "jdk/internal/util/Preconditions" "SIOOBE_FORMATTER" "Ljava/util/function/BiFunction;" (.ref f) A s s.heap := by
  obtain ⟨v, hv, hr⟩ := Cond.isRef_spec (args := args) (first := s) (o := none) (s := s) (idx := []) h
  cases v with
  | null => exact ⟨0, Or.inl (va_Zof hl hi hv hA)⟩
  | ref t => exact ⟨t, Or.inr (va_Zof hl hi hv hA)⟩
  | _ => cases hr
set_option maxRecDepth 20000 in
set_option maxHeartbeats 4000000 in
theorem whole_start {p : Program} {e : Env} {s : State} {m : MethodId} {below : List Frame} {meth : Method} {c : Code} (l : Launch) (hflags : l.flags = flags0) {b L : Nat} {xs : Nat → Int32} (hL : L ≤ 3072) (C0 : lw_At p s m meth c b L xs) : W p l e room_1 s m #[Value.ref b] below meth c s.heap [] 0 0 (lw_Z below #[Value.ref b] s) (entryFrame m ([Value.ref b] : List Value).toArray 7) := by
  obtain ⟨hx, hb, hr, hml, hown, hts, hX, hbs, hlk, hgv⟩ := C0
  have hn := flat_of_before _ hgv
  have hTW : ∀ w ∈ TW, w.before #[Value.ref b] s = true := fun w hw => hts w (List.mem_filter.mp hw).1
  have hA0 : ∀ a : Nat, a < s.heap.size → ¬ (fun q : Nat => s.heap.size ≤ q) a := fun a h h1 => absurd h1 (Nat.not_le_of_lt h)
  obtain ⟨D, hD⟩ := cn_kn hTW
  obtain ⟨cI, hI1, hI2⟩ := cn_arr (hTW _ k_172)
  obtain ⟨cZ, hZ1, hZ2⟩ := cn_arr (hTW _ k_262)
  obtain ⟨cB, hB1, hB2⟩ := cn_arr (hTW _ k_687)
  obtain ⟨cJ, hJ1, hJ2⟩ := cn_arr (hTW _ k_261)
  obtain ⟨ak, av, hS6, htm⟩ := vk_Sof (args := #[Value.ref b]) (s := s) (N := 6) (tm := cn_tm) (len := am_lens) (byt := am_byts) (A := fun q => s.heap.size ≤ q) (by decide)
    (fun i hi => hn _ ((by decide +kernel : ∀ i : Nat, i < 6 → Cond.exactly (cn_tm i) "java/lang/String" ∈ flatC (Jvm.Cond.and given_1 narrow_1)) i hi))
    (fun i hi => hn _ ((by decide +kernel : ∀ i : Nat, i < 6 → Cond.eq (.field (cn_tm i) "java/lang/String" "coder" "B") (.int 0) ∈ flatC (Jvm.Cond.and given_1 narrow_1)) i hi))
    (fun i hi => hn _ ((by decide +kernel : ∀ i : Nat, i < 6 → Cond.arrayOf (.field (cn_tm i) "java/lang/String" "value" "[B") .byte ∈ flatC (Jvm.Cond.and given_1 narrow_1)) i hi))
    (fun i hi => hn _ ((by decide +kernel : ∀ i : Nat, i < 6 → Cond.eq (.length (.field (cn_tm i) "java/lang/String" "value" "[B")) (.int (Int32.ofNat (am_lens.getD i 0))) ∈ flatC (Jvm.Cond.and given_1 narrow_1)) i hi))
    (fun i hi j hj => hn _ ((by decide +kernel : ∀ i : Nat, i < 6 → ∀ j : Nat, j < am_lens.getD i 0 → Cond.eq (.elem (.field (cn_tm i) "java/lang/String" "value" "[B") (.int (Int32.ofNat j))) (.int ((am_byts.getD i []).getD j 0)) ∈ flatC (Jvm.Cond.and given_1 narrow_1)) i hi j hj))
    (fun i j hi hj hij => ((by decide +kernel : ∀ i : Nat, i < 6 → ∀ j : Nat, j < 6 → i ≠ j → Cond.not (Cond.eq (cn_tm i) (cn_tm j)) ∈ flatC (Jvm.Cond.and given_1 narrow_1) ∨ Cond.not (Cond.eq (cn_tm j) (cn_tm i)) ∈ flatC (Jvm.Cond.and given_1 narrow_1)) i hi j hj hij).imp (hn _) (hn _)) hA0
  obtain ⟨fm, hfm⟩ := cn_fmt (A := fun q => s.heap.size ≤ q) (hts _ (List.mem_of_getElem? (i := 540) (by decide +kernel))) (hts _ (List.mem_of_getElem? (i := 141) (by decide +kernel))) (hn _ (by decide +kernel)) hA0
  obtain ⟨t1, ht1⟩ := cn_str (hn (Cond.exactly (.string "BeamSetter" 101) "java/lang/String") (by decide +kernel))
  obtain ⟨t2, ht2⟩ := cn_str (hn (Cond.exactly (.string "BeamSetter" 138) "java/lang/String") (by decide +kernel))
  obtain ⟨t3, ht3⟩ := cn_str (hn (Cond.exactly (.string "BeamSetter" 174) "java/lang/String") (by decide +kernel))
  have hlf : l.stackTraces = false := by unfold Launch.stackTraces; rw [hflags]; decide +kernel
  have htx : ∀ (i : Nat) (q : Nat × String), am_txs[i]? = some q → vk_R "BeamSetter$Reader" q.1 q.2 (cn_gk ak av fm b t1 t2 t3 i) s := by
    intro i q hq
    match i, hq with
    | 0, hq => cases hq; exact vk_R.of (hts _ (List.mem_of_getElem? (i := 510) (by decide +kernel))) (htm 0 (by decide))
    | 1, hq => cases hq; exact vk_R.of (hts _ (List.mem_of_getElem? (i := 563) (by decide +kernel))) (htm 1 (by decide))
    | 2, hq => cases hq; exact vk_R.of (hts _ (List.mem_of_getElem? (i := 564) (by decide +kernel))) (htm 2 (by decide))
    | 3, hq => cases hq; exact vk_R.of (hts _ (List.mem_of_getElem? (i := 565) (by decide +kernel))) (htm 3 (by decide))
    | 4, hq => cases hq; exact vk_R.of (hts _ (List.mem_of_getElem? (i := 566) (by decide +kernel))) (htm 4 (by decide))
    | 5, hq => cases hq; exact vk_R.of (hts _ (List.mem_of_getElem? (i := 567) (by decide +kernel))) (htm 5 (by decide))
    | n + 6, hq => simp [am_txs] at hq
  have hnest : ∀ q ∈ cn_nest, va_Nw (.methodLinkNest "BeamSetter" q.1 q.2 "BeamSetter") s := by
    intro q hq
    simp only [cn_nest, List.mem_cons, List.not_mem_nil, or_false] at hq
    rcases hq with rfl | rfl | rfl | rfl | rfl
    · exact va_Nw.of rfl (hts _ (List.mem_of_getElem? (i := 159) (by decide +kernel)))
    · exact va_Nw.of rfl (hts _ (List.mem_of_getElem? (i := 175) (by decide +kernel)))
    · exact va_Nw.of rfl (hts _ (List.mem_of_getElem? (i := 192) (by decide +kernel)))
    · exact va_Nw.of rfl (hts _ (List.mem_of_getElem? (i := 265) (by decide +kernel)))
    · exact va_Nw.of rfl (hts _ (List.mem_of_getElem? (i := 285) (by decide +kernel)))
  have hxF : xe_F s := by
    intro w hw
    have h9 : w.before #[Value.ref b] s = true := by
      simp only [FWl, List.mem_cons, List.not_mem_nil, or_false] at hw
      rcases hw with rfl | rfl | rfl | rfl | rfl
      · exact (hts _ (List.mem_of_getElem? (i := 1180) (by decide +kernel)))
      · exact (hts _ (List.mem_of_getElem? (i := 1182) (by decide +kernel)))
      · exact (hts _ (List.mem_of_getElem? (i := 1184) (by decide +kernel)))
      · exact (hts _ (List.mem_of_getElem? (i := 1178) (by decide +kernel)))
      · exact (hts _ (List.mem_of_getElem? (i := 1247) (by decide +kernel)))
    exact fw_move (FWl_ok w hw).1 (FWl_ok w hw).2 (Vm.Alike.refl s.vm) h9
  have hE0 : cn_E (GG (D, fun k => [cI, cZ, cB, cJ].getD k 0, fun _ => 0, l, cn_gk ak av fm b t1 t2 t3)) (fun q => s.heap.size ≤ q) s s.heap :=
    ⟨⟨cn_vkS hS6, va_Zof (hts _ (List.mem_of_getElem? (i := 524) (by decide +kernel))) (hts _ (List.mem_of_getElem? (i := 139) (by decide +kernel))) (va_eqi (hn _ (by decide +kernel))) hA0, hfm⟩, htx, hnest⟩
  have hl7 := lv_entry [Value.ref b] (n := 7) (Nat.le_of_ble_eq_true rfl)
  rw [lg_entry_eq]
  refine (law_enter (X := (D, fun k => [cI, cZ, cB, cJ].getD k 0, fun _ => 0, l, cn_gk ak av fm b t1 t2 t3)) (A := fun q => s.heap.size ≤ q) (b := b) (fun f7 f8 q lsB hP7 => ?_)) s.heap [] ⟨⟨hx, hb, hml, hown, hTW, hr, hlk⟩, fun h => absurd h (by decide +kernel), ⟨hD, fun k q hk => ?_⟩, fun k q hk => by simp at hk, ⟨fun i j x y h => by simp at h, fun k q h => by simp at h⟩, va_S.rf, fun _ h => h, hE0, hl7⟩
  · intro H locs h
    obtain ⟨gX, -, gK1, gP, gD1, gS1, gA1, gE, gl⟩ := h
    rw [cn_pic] at gP gD1
    generalize hXX : (((D, fun k => [cI, cZ, cB, cJ].getD k 0, cn_fA f7.1 f8 q, l, cn_gk ak av fm b t1 t2 t3) : AX)) = X
    have hge : ∀ o : Nat, o < (gS (GG X)).length → s.heap.size ≤ gA (GG X) o := by
      subst hXX
      exact fun o ho => gD1.2 o (gA (GG _) o, am_el (GG _) _ o) (am_pic_get ho)
    have hnA : ∀ a : Nat, a < s.heap.size → ¬ am_A (GG X) s.heap.size a := by
      intro a ha h1
      rcases h1 with ⟨o, ho, rfl⟩ | h1
      · exact absurd (hge o ho) (Nat.not_le_of_lt ha)
      · exact absurd h1 (Nat.not_le_of_lt ha)
    have hAA : ∀ q : Nat, am_A (GG X) s.heap.size q → s.heap.size ≤ q := by
      intro q h1
      rcases h1 with ⟨o, ho, rfl⟩ | h1
      · exact hge o ho
      · exact h1
    have hLC : LC X s L xs := by
      refine ⟨?_, ?_, hnA _ ?_, hL⟩
      · subst hXX; exact hX
      · subst hXX; exact hbs
      · subst hXX; exact hbs
    have hxe : xe (GG X) s.heap.size s := by
      refine ⟨⟨?_, ?_, ?_, va_Nc.of (hn _ (by decide +kernel)), hxF⟩, vx_Zqof (hts _ (List.mem_of_getElem? (i := 1203) (by decide +kernel))) (hts _ (List.mem_of_getElem? (i := 143) (by decide +kernel))) (hn _ (by decide +kernel)) hnA, vx_Zqof (hts _ (List.mem_of_getElem? (i := 1205) (by decide +kernel))) (hts _ (List.mem_of_getElem? (i := 143) (by decide +kernel))) (hn _ (by decide +kernel)) hnA⟩
      · subst hXX; exact vk_R.of (hts _ (List.mem_of_getElem? (i := 1216) (by decide +kernel))) ht1
      · subst hXX; exact vk_R.of (hts _ (List.mem_of_getElem? (i := 1254) (by decide +kernel))) ht2
      · subst hXX; exact vk_R.of (hts _ (List.mem_of_getElem? (i := 1268) (by decide +kernel))) ht3
    have hend : ∀ (μ : Mu) (i : Int) (cells slots : Nat), cells ≤ 1103 → slots ≤ 29613 → Gv (GG X) M_LL room_1 p e s m #[Value.ref b] below meth c (lw_Z below #[Value.ref b] s) cells slots 1581 (lsL i) [] μ := by
      intro μ i cells slots h1 h2 H2 locs2 lsC hI
      have hgl : gL (GG X) = l := by subst hXX; rfl
      rw [hgl]
      refine lv_iconst hx hb dL_law_1581 rfl (W.widen h1 h2 (va_forget (fun q hq => hAA _ (hI.2.2.2.2.1.2.2 q hq)) ?_))
      exact lw_ret hx hb hr hlk dL_law_1582
    have hgo := law_loop hLC hxe (by subst hXX; exact hlf) hend (L + 1) 0 (cn_mu f7.2.1 f7.2.2) 20 (by omega) (by omega) (cn_inv hP7.1.1 hP7.1.2.1) H locs lsB
    subst hXX
    refine hgo ⟨gX, gK1, gP, ⟨gD1.1, fun k q hq => Or.inr (gD1.2 k q hq)⟩, ⟨gS1.1, fun q h1 h2 => gS1.2.1 q h1 (fun h => h2 (Or.inr h)), fun z hz => Or.inr (gS1.2.2 z hz)⟩, ⟨gE.1.narrow hAA, gE.2.1⟩, lv_mono gl (fun z hz => ?_)⟩
    have hz2 : z ∈ [(0, Value.ref b), (1, .ref (f7.1 0)), (2, .ref (f8 0)), (3, .ref q), (4, .int (Int32.ofInt 0))] := hz
    simp only [List.mem_cons, List.not_mem_nil, or_false] at hz2 ⊢
    rcases hz2 with h | h | h | h | h <;> simp [h]
  · match k, hk with
    | 0, hk => cases hk; exact ⟨hI1, hI2⟩
    | 1, hk => cases hk; exact ⟨hZ1, hZ2⟩
    | 2, hk => cases hk; exact ⟨hB1, hB2⟩
    | 3, hk => cases hk; exact ⟨hJ1, hJ2⟩
    | n + 4, hk => simp [cn_tys] at hk
