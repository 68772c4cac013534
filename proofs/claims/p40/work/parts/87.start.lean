/-! THE CLAIM OUT OF ONE WALK OF THE LAW'S BODY. Your part is whole_start (and what it stands on); all else here is the same for every law, but numbers. -/
def R_law : String := "BeamSetterLaw"
def lw_P (b : Addr) (xs : List Int32) (args : Array Value) (s : State) : Prop := args = #[.ref b] ∧ s.IntsAt b xs ∧ xs.length ≤ 260 ∧ (Jvm.Cond.and given_1 narrow_1).before args s = true
def lw_Q (_ : Array Value) (s : State) (o : Outcome) (t : State) : Prop := o = .returned (some (.int 1)) ∧ Framed s o t [] 293014 8222658
def lw_Z (below : List Frame) (a : Array Value) (s : State) : State → Prop := fun t => ∃ o, t.status = .running ∧ Ended t below o ∧ lw_Q a s o t
/-- the law's own end, with 1 on the stack, nothing written that was there before, its room as the claim has it -/
theorem lw_ret {p : Program} {l : Launch} {e : Env} {s : State} {m : MethodId} {below : List Frame} {meth : Method} {c : Code} {b : Nat} (hx : p.tables.exec = Jvm.exec) (hb : c.code = code) (hr : meth.sig.returnType = ret) (hlocks : meth.locks = false) {pc : Nat} {H : Heap} {ls : Array Slot} (hdg : decode code pc = .ok (.ireturn, 1)) : W p l e room_1 s m #[Value.ref b] below meth c H [] 293014 8222658 (lw_Z below #[Value.ref b] s) (F0 m pc ls [.int 1]) := by
  intro T hT X
  obtain ⟨fs, hret, hrun, hended, hW, hframe⟩ := X.leave (v := some (.int 1)) (hlocks := hlocks) (fun h => by rw [hr] at h; cases h)
  have hmeth' : T.vm.method? m = some meth := X.method'
  refine ⟨T.setFrames fs, ?_, .returned (some (.int 1)), hrun, hended, rfl, ⟨_, rfl⟩, hW, hframe⟩
  jvm_step X.here [X.here.top, hx, hb, hdg, hmeth', hr, ret, narrow_b1]
  (try refine ⟨rfl, ?_⟩); (try refine ⟨rfl, ?_⟩)
  first | (intro acts; rw [hret _ acts rfl rfl rfl]) | rw [hret _ _ rfl rfl rfl]
  exact Steps.refl _
/-- what holds at the law's entry: the machine, the code, the tables' words (any of lw_tbl by 'hts w (by decide +kernel)'), the script of L ints xs at the cell b, what the Statement gives of the start (any of its parts by flat_of_before) -/
def lw_At (p : Program) (s : State) (m : MethodId) (meth : Method) (c : Code) (b L : Nat) (xs : Nat → Int32) : Prop :=
  p.tables.exec = Jvm.exec ∧ c.code = code ∧ meth.sig.returnType = ret ∧ c.maxLocals = 8 ∧ s.vm.findClass R_law = some m.cls ∧ (∀ w ∈ lw_tbl, w.before #[Value.ref b] s = true) ∧ va_X b L xs s s.heap ∧ b < s.heap.size ∧ meth.locks = false ∧ (Jvm.Cond.and given_1 narrow_1).before #[Value.ref b] s = true
/-- a private method that an object's class has from a superclass is the one selected -/
theorem lw_selSB {C : String} {y : MethodName} {s : State} {args : Array Value} {n : Nat} (hy : y.cls ≠ "java/lang/invoke/MethodHandle" ∧ y.cls ≠ "java/lang/invoke/VarHandle") (hins : (Cond.instantiable C n).before args s = true) (hpriv : (Cond.privateMethod y).before args s = true) (hinst : (Cond.instanceMethod y).before args s = true) (hsm : (Cond.sameMethod y.cls y.cls y.name y.desc).before args s = true) : (Cond.selects C y y).before args s = true := by
  obtain ⟨c, k, hc, hk, -, -, -, -⟩ := Cond.instantiable_spec hins
  obtain ⟨mk, methM, hnamed, hmethM, -, -⟩ := Cond.instanceMethod_spec hinst
  have hfound : s.methodFound? y.cls y.name y.desc = some mk := State.methodFound?_of_named hnamed hy
  obtain ⟨-, kY, hkY, hni⟩ := Cond.sameMethod_spec (findClass_of_methodNamed hnamed) hfound hsm
  have hsel : selectMethod {} s.vm c mk = .method mk := selectMethod_private hmethM (Cond.privateMethod_at hpriv mk methM hnamed hmethM)
  simp only [Cond.before, Cond.holds, Cond.value, hc, hfound, hnamed, hsel, hkY]
  simp; exact hni
/-- the law's own end, whatever its launch and arguments -/
theorem lw_retG {p : Program} {l : Launch} {e : Env} {s : State} {m : MethodId} {args : Array Value} {below : List Frame} {meth : Method} {c : Code} (hx : p.tables.exec = Jvm.exec) (hb : c.code = code) (hr : meth.sig.returnType = ret) (hlocks : meth.locks = false) {pc : Nat} {H : Heap} {ls : Array Slot} (hdg : decode code pc = .ok (.ireturn, 1)) : W p l e room_1 s m args below meth c H [] 293014 8222658 (lw_Z below args s) (F0 m pc ls [.int 1]) := by
  intro T hT X
  obtain ⟨fs, hret, hrun, hended, hW, hframe⟩ := X.leave (v := some (.int 1)) (hlocks := hlocks) (fun h => by rw [hr] at h; cases h)
  have hmeth' : T.vm.method? m = some meth := X.method'
  refine ⟨T.setFrames fs, ?_, .returned (some (.int 1)), hrun, hended, rfl, ⟨_, rfl⟩, hW, hframe⟩
  jvm_step X.here [X.here.top, hx, hb, hdg, hmeth', hr, ret, narrow_b1]
  (try refine ⟨rfl, ?_⟩); (try refine ⟨rfl, ?_⟩)
  first | (intro acts; rw [hret _ acts rfl rfl rfl]) | rw [hret _ _ rfl rfl rfl]
  exact Steps.refl _
def cn_pl (i : Nat) : Nat := [103, 109, 111, 113, 115, 117].getD i 0
def cn_tm (i : Nat) : Term := .string "BeamSetter$Reader" (cn_pl i)
def cn_pl2 (i : Nat) : Nat := [21, 58, 67, 72, 74, 76, 81, 86, 88].getD i 0
def cn_tm2 (i : Nat) : Term := .string "BeamSetterLaw" (cn_pl2 i)
def cn_td0 : Term := .static "java/lang/Integer" "DigitOnes" "[B"
def cn_td1 : Term := .static "java/lang/Integer" "DigitTens" "[B"
set_option maxRecDepth 20000 in
theorem cn_dl0 : (List.range 100).map (fun j => Cond.eq (.elem cn_td0 (.int (Int32.ofNat j))) (.int (Int32.ofNat (48 + j % 10)))) = ((flatC (Jvm.Cond.and given_1 narrow_1)).drop 12).take 100 := by decide +kernel
theorem cn_dg0 (j : Nat) (hj : j < 100) : Cond.eq (.elem cn_td0 (.int (Int32.ofNat j))) (.int (Int32.ofNat (48 + j % 10))) ∈ flatC (Jvm.Cond.and given_1 narrow_1) := by
  have h := List.mem_map_of_mem (f := fun j => Cond.eq (.elem cn_td0 (.int (Int32.ofNat j))) (.int (Int32.ofNat (48 + j % 10)))) (List.mem_range.mpr hj)
  rw [cn_dl0] at h
  exact List.mem_of_mem_drop (List.mem_of_mem_take h)
set_option maxRecDepth 20000 in
theorem cn_dl1 : (List.range 100).map (fun j => Cond.eq (.elem cn_td1 (.int (Int32.ofNat j))) (.int (Int32.ofNat (48 + j / 10)))) = ((flatC (Jvm.Cond.and given_1 narrow_1)).drop 115).take 100 := by decide +kernel
theorem cn_dg1 (j : Nat) (hj : j < 100) : Cond.eq (.elem cn_td1 (.int (Int32.ofNat j))) (.int (Int32.ofNat (48 + j / 10))) ∈ flatC (Jvm.Cond.and given_1 narrow_1) := by
  have h := List.mem_map_of_mem (f := fun j => Cond.eq (.elem cn_td1 (.int (Int32.ofNat j))) (.int (Int32.ofNat (48 + j / 10)))) (List.mem_range.mpr hj)
  rw [cn_dl1] at h
  exact List.mem_of_mem_drop (List.mem_of_mem_take h)
def cn_gk (ak av : Nat → Nat) (f b L : Nat) (lk lv : Nat → Nat) (d0 d1 : Nat) (i : Nat) : Nat := if i < 6 then ak i else if i < 12 then av (i - 6) else if i = 12 then f else if i = 13 then b else if i = 14 then L else if i < 30 then lk (i - 20) else if i < 40 then lv (i - 30) else if i = 40 then d0 else d1
theorem cn_gk_k {ak av : Nat → Nat} {f b L : Nat} {lk lv : Nat → Nat} {d0 d1 : Nat} {i : Nat} (h : i < 6) : cn_gk ak av f b L lk lv d0 d1 i = ak i := by unfold cn_gk; rw [if_pos h]
theorem cn_gk_v {ak av : Nat → Nat} {f b L : Nat} {lk lv : Nat → Nat} {d0 d1 : Nat} {i : Nat} (h : i < 6) : cn_gk ak av f b L lk lv d0 d1 (6 + i) = av i := by unfold cn_gk; rw [if_neg (by omega), if_pos (by omega), show 6 + i - 6 = i by omega]
theorem cn_gk_l {ak av : Nat → Nat} {f b L : Nat} {lk lv : Nat → Nat} {d0 d1 : Nat} {i : Nat} (h : i < 9) : cn_gk ak av f b L lk lv d0 d1 (20 + i) = lk i := by unfold cn_gk; rw [if_neg (by omega), if_neg (by omega), if_neg (by omega), if_neg (by omega), if_neg (by omega), if_pos (by omega), show 20 + i - 20 = i by omega]
theorem cn_gk_w {ak av : Nat → Nat} {f b L : Nat} {lk lv : Nat → Nat} {d0 d1 : Nat} {i : Nat} (h : i < 9) : cn_gk ak av f b L lk lv d0 d1 (30 + i) = lv i := by unfold cn_gk; rw [if_neg (by omega), if_neg (by omega), if_neg (by omega), if_neg (by omega), if_neg (by omega), if_neg (by omega), if_pos (by omega), show 30 + i - 30 = i by omega]
theorem vk_Scg {N : Nat} {len : List Nat} {byt : List (List Int32)} {k v k' v' : Nat → Nat} {A : Nat → Prop} {U : State} {H : Heap} (hk : ∀ i : Nat, i < N → k' i = k i) (hv : ∀ i : Nat, i < N → v' i = v i) (h : vk_S N len byt k v A U H) : vk_S N len byt k' v' A U H := by
  refine ⟨fun i hi => ?_, fun i j hi hj e => ?_⟩
  · have h1 := h.1 i hi
    rw [hk i hi, hv i hi]
    exact h1
  · rw [hk i hi, hk j hj] at e
    exact h.2 i j hi hj e
theorem cn_kn {s : State} {args : Array Value} (hTW : ∀ w ∈ TW, w.before args s = true) : ∃ D : va_G, ∀ (c : Nat) (q : vw_C), vwCl[c]? = some q → u_Kn s q.1 q.2.1 q.2.2 (D.1 c) (D.2 c) := by
  have h0 : ∀ c : Nat, ∃ d : ClassId × (Nat → Nat), ∀ q : vw_C, vwCl[c]? = some q → u_Kn s q.1 q.2.1 q.2.2 d.1 d.2 := by
    intro c
    match c with
    | 0 => obtain ⟨c, i, h⟩ := u_known (n := 18) hTW tw_X0 (hTW _ (tw_in 116 (by decide +kernel) rfl)); exact ⟨(c, i), fun q hq => by cases hq; exact h⟩
    | 1 => obtain ⟨c, i, h⟩ := u_known (n := 3) hTW tw_X1 (hTW _ (tw_in 99 (by decide +kernel) rfl)); exact ⟨(c, i), fun q hq => by cases hq; exact h⟩
    | 2 => obtain ⟨c, i, h⟩ := u_known (n := 17) hTW tw_X2 (hTW _ (tw_in 219 (by decide +kernel) rfl)); exact ⟨(c, i), fun q hq => by cases hq; exact h⟩
    | 3 => obtain ⟨c, i, h⟩ := u_known (n := 10) hTW tw_X3 (hTW _ (tw_in 313 (by decide +kernel) rfl)); exact ⟨(c, i), fun q hq => by cases hq; exact h⟩
    | 4 => obtain ⟨c, i, h⟩ := u_known (n := 3) hTW tw_X4 (hTW _ (tw_in 204 (by decide +kernel) rfl)); exact ⟨(c, i), fun q hq => by cases hq; exact h⟩
    | 5 => obtain ⟨c, i, h⟩ := u_known (n := 2) hTW tw_X5 (hTW _ (tw_in 83 (by decide +kernel) rfl)); exact ⟨(c, i), fun q hq => by cases hq; exact h⟩
    | 6 => obtain ⟨c, i, h⟩ := u_known (n := 4) hTW tw_X6 (hTW _ (tw_in 185 (by decide +kernel) rfl)); exact ⟨(c, i), fun q hq => by cases hq; exact h⟩
    | 7 => obtain ⟨c, i, h⟩ := u_known (n := 9) hTW tw_X7 (hTW _ (tw_in 75 (by decide +kernel) rfl)); exact ⟨(c, i), fun q hq => by cases hq; exact h⟩
    | 8 => obtain ⟨c, i, h⟩ := u_known (n := 4) hTW tw_J0 (hTW _ (tw_in 926 (by decide +kernel) rfl)); exact ⟨(c, i), fun q hq => by cases hq; exact h⟩
    | 9 => obtain ⟨c, i, h⟩ := u_known (n := 4) hTW tw_J4 (hTW _ (tw_in 796 (by decide +kernel) rfl)); exact ⟨(c, i), fun q hq => by cases hq; exact h⟩
    | n + 10 => exact ⟨(0, fun _ => 0), fun q hq => by simp [vwCl] at hq⟩
  obtain ⟨g, hg⟩ := Classical.axiomOfChoice h0
  exact ⟨(fun c => (g c).1, fun c => (g c).2), fun c q hq => hg c q hq⟩
theorem cn_arr {s : State} {args : Array Value} {ty : FieldType} (h : (Cond.arrayClass ty).before args s = true) : ∃ c : ClassId, ArrOfT s c ty ∧ s.vm.findClass ("[" ++ ty.toString) = some c := by
  obtain ⟨c, k, co, h1, h2, h3⟩ := Cond.arrayClass_spec h
  exact ⟨c, fun n z => ⟨fun _ h => (by cases h), k, h2, co, h3⟩, h1⟩
theorem cn_fmt {s : State} {args : Array Value} {A : Nat → Prop} (hl : (Cond.laysStatic "jdk/internal/util/Preconditions" "SIOOBE_FORMATTER" "Ljava/util/function/BiFunction;").before args s = true) (hi : (Cond.initialized "jdk/internal/util/Preconditions").before args s = true) (h : (Cond.isRef (.static "jdk/internal/util/Preconditions" "SIOOBE_FORMATTER" "Ljava/util/function/BiFunction;")).before args s = true) (hA : ∀ a : Nat, a < s.heap.size → ¬ A a) :
    ∃ f : Nat, va_Z "jdk/internal/util/Preconditions" "SIOOBE_FORMATTER" "Ljava/util/function/BiFunction;" .null A s s.heap ∨ va_Z "jdk/internal/util/Preconditions" "SIOOBE_FORMATTER" "Ljava/util/function/BiFunction;" (.ref f) A s s.heap := by
  obtain ⟨v, hv, hr⟩ := Cond.isRef_spec (args := args) (first := s) (o := none) (s := s) (idx := []) h
  cases v with
  | null => exact ⟨0, Or.inl (va_Zof hl hi hv hA)⟩
  | ref t => exact ⟨t, Or.inr (va_Zof hl hi hv hA)⟩
  | _ => cases hr
/-- the pieces behind their constructors, as a piece that stands -/
theorem cn_cj {m1 m2 : Mu} (h : CPS S0 0 m1) (h14 : m1 0 14 = 0) : CJ (cn_mu m1 m2) 20 := by
  have e : ∀ j : Int, 0 ≤ j → j ≤ 10 → cn_mu m1 m2 (20 + j) = m1 j := by
    intro j h1 h2
    funext k
    unfold cn_mu
    rw [if_neg (by omega), if_pos (by omega), show 20 + j - 20 = j by omega]
  have e0 : cn_mu m1 m2 20 = m1 0 := e 0 (by omega) (by omega)
  have hC : CPS S0 20 (cn_mu m1 m2) := by
    unfold CPS evn at h ⊢
    rw [e0, e 1 (by omega) (by omega), e 2 (by omega) (by omega), e 3 (by omega) (by omega), e 4 (by omega) (by omega), e 5 (by omega) (by omega), e 6 (by omega) (by omega), e 7 (by omega) (by omega), e 8 (by omega) (by omega)]
    exact h
  have hI : PI (cn_mu m1 m2) 20 := hC.pi (Or.inl rfl)
  have z7 : cn_mu m1 m2 20 7 = 0 := hC.f7
  have z14 : cn_mu m1 m2 20 14 = 0 := by rw [e0]; exact h14
  have z3 : cn_mu m1 m2 20 3 = 9 := hC.f3
  have hG : PG (cn_mu m1 m2) 20 := by
    unfold PG
    rw [z7, z14]
    exact ⟨by omega, fun g h1 h2 => by omega, fun i h1 h2 => by omega, fun i h1 h2 => by omega⟩
  exact ⟨rfl, rfl, hI, hG, by rw [z3]; omega⟩
theorem cn_lasts {K : XKt} (hK : K = (room_1, (fun _ _ s _ args below _ _ => lw_Z below args s), fun (s : State) (q : Nat) => s.heap.size ≤ q)) {G' : AG} {cs ss : Nat} {ls : List AV} {μ' : Mu} (h1 : cs ≤ 200000) (h2 : ss ≤ 1500000) : Gx K G' M_L_law cs ss 291 ls [(0, 1)] μ' := by
  subst hK
  intro p e s m args below meth c H locs lsA hI
  have hv : (([(0, 1)] : List AV).map (am_c G')) = [Value.int 1] := rfl
  show W p (gL G') e room_1 s m args below meth c H locs cs ss (lw_Z below args s) (F0 m 291 lsA (([(0, 1)] : List AV).map (am_c G')))
  rw [hv]
  exact W.widen (by omega) (by omega) (va_forget (fun q hq => hI.2.2.2.2.1.2.2 q hq) (lw_retG hI.1.1 hI.1.2.1 hI.1.2.2.2.2.2.1 hI.1.2.2.2.2.2.2 dL_law_291))
set_option maxRecDepth 20000 in
set_option maxHeartbeats 4000000 in
theorem whole_start {p : Program} {e : Env} {s : State} {m : MethodId} {below : List Frame} {meth : Method} {c : Code} (l : Launch) (hflags : l.flags = flags0) {b L : Nat} {xs : Nat → Int32} (hL : L ≤ 260) (C0 : lw_At p s m meth c b L xs) : W p l e room_1 s m #[Value.ref b] below meth c s.heap [] 0 0 (lw_Z below #[Value.ref b] s) (entryFrame m ([Value.ref b] : List Value).toArray 8) := by
  obtain ⟨hx, hb, hr, hml, hown, hts, hX, hbs, hlk, hgv⟩ := C0
  have hn := flat_of_before _ hgv
  have hTW : ∀ w ∈ TW, w.before #[Value.ref b] s = true := by
    intro w hw
    rcases List.mem_append.mp (List.mem_filter.mp hw).1 with h | h
    · exact hts w h
    simp only [lw_ext, List.mem_cons, List.not_mem_nil, or_false] at h
    rcases h with rfl | rfl | rfl | rfl
    · exact lw_selSB (n := 4) ⟨by decide +kernel, by decide +kernel⟩ (hts _ (List.mem_of_getElem? (i := 796) (by decide +kernel))) (hts _ (List.mem_of_getElem? (i := 837) (by decide +kernel))) (hts _ (List.mem_of_getElem? (i := 838) (by decide +kernel))) (hts _ (List.mem_of_getElem? (i := 1236) (by decide +kernel)))
    · exact lw_selSB (n := 4) ⟨by decide +kernel, by decide +kernel⟩ (hts _ (List.mem_of_getElem? (i := 796) (by decide +kernel))) (hts _ (List.mem_of_getElem? (i := 841) (by decide +kernel))) (hts _ (List.mem_of_getElem? (i := 842) (by decide +kernel))) (hts _ (List.mem_of_getElem? (i := 1237) (by decide +kernel)))
    · exact lw_selSB (n := 4) ⟨by decide +kernel, by decide +kernel⟩ (hts _ (List.mem_of_getElem? (i := 796) (by decide +kernel))) (hts _ (List.mem_of_getElem? (i := 887) (by decide +kernel))) (hts _ (List.mem_of_getElem? (i := 888) (by decide +kernel))) (hts _ (List.mem_of_getElem? (i := 1238) (by decide +kernel)))
    · exact lw_selSB (n := 4) ⟨by decide +kernel, by decide +kernel⟩ (hts _ (List.mem_of_getElem? (i := 796) (by decide +kernel))) (hts _ (List.mem_of_getElem? (i := 891) (by decide +kernel))) (hts _ (List.mem_of_getElem? (i := 892) (by decide +kernel))) (hts _ (List.mem_of_getElem? (i := 1239) (by decide +kernel)))
  have hA0 : ∀ a : Nat, a < s.heap.size → ¬ (fun q : Nat => s.heap.size ≤ q) a := fun a h h1 => absurd h1 (Nat.not_le_of_lt h)
  obtain ⟨D, hD⟩ := cn_kn hTW
  obtain ⟨cI, hI1, hI2⟩ := cn_arr (ty := .int) (hTW _ (tw_in 97 (by decide +kernel) rfl))
  obtain ⟨cZ, hZ1, hZ2⟩ := cn_arr (ty := .boolean) (hTW _ (tw_in 183 (by decide +kernel) rfl))
  obtain ⟨cB, hB1, hB2⟩ := cn_arr (ty := .byte) (hTW _ (tw_in 584 (by decide +kernel) rfl))
  obtain ⟨cJ, hJ1, hJ2⟩ := cn_arr (ty := .long) (hTW _ (tw_in 182 (by decide +kernel) rfl))
  obtain ⟨ak, av, hS6, htm⟩ := vk_Sof (args := #[Value.ref b]) (s := s) (N := 6) (tm := cn_tm) (len := am_lens) (byt := am_byts) (A := fun q => s.heap.size ≤ q) (by decide)
    (fun i hi => hn _ ((by decide +kernel : ∀ i : Nat, i < 6 → Cond.exactly (cn_tm i) "java/lang/String" ∈ flatC (Jvm.Cond.and given_1 narrow_1)) i hi))
    (fun i hi => hn _ ((by decide +kernel : ∀ i : Nat, i < 6 → Cond.eq (.field (cn_tm i) "java/lang/String" "coder" "B") (.int 0) ∈ flatC (Jvm.Cond.and given_1 narrow_1)) i hi))
    (fun i hi => hn _ ((by decide +kernel : ∀ i : Nat, i < 6 → Cond.arrayOf (.field (cn_tm i) "java/lang/String" "value" "[B") .byte ∈ flatC (Jvm.Cond.and given_1 narrow_1)) i hi))
    (fun i hi => hn _ ((by decide +kernel : ∀ i : Nat, i < 6 → Cond.eq (.length (.field (cn_tm i) "java/lang/String" "value" "[B")) (.int (Int32.ofNat (am_lens.getD i 0))) ∈ flatC (Jvm.Cond.and given_1 narrow_1)) i hi))
    (fun i hi j hj => hn _ ((by decide +kernel : ∀ i : Nat, i < 6 → ∀ j : Nat, j < am_lens.getD i 0 → Cond.eq (.elem (.field (cn_tm i) "java/lang/String" "value" "[B") (.int (Int32.ofNat j))) (.int ((am_byts.getD i []).getD j 0)) ∈ flatC (Jvm.Cond.and given_1 narrow_1)) i hi j hj))
    (fun i j hi hj hij => ((by decide +kernel : ∀ i : Nat, i < 6 → ∀ j : Nat, j < 6 → i ≠ j → Cond.not (Cond.eq (cn_tm i) (cn_tm j)) ∈ flatC (Jvm.Cond.and given_1 narrow_1) ∨ Cond.not (Cond.eq (cn_tm j) (cn_tm i)) ∈ flatC (Jvm.Cond.and given_1 narrow_1)) i hi j hj hij).imp (hn _) (hn _)) hA0
  obtain ⟨lk, lv, hS9, htm2⟩ := vk_Sof (args := #[Value.ref b]) (s := s) (N := 9) (tm := cn_tm2) (len := lw_lens) (byt := lw_byts) (A := fun q => s.heap.size ≤ q) (by decide)
    (fun i hi => hn _ ((by decide +kernel : ∀ i : Nat, i < 9 → Cond.exactly (cn_tm2 i) "java/lang/String" ∈ flatC (Jvm.Cond.and given_1 narrow_1)) i hi))
    (fun i hi => hn _ ((by decide +kernel : ∀ i : Nat, i < 9 → Cond.eq (.field (cn_tm2 i) "java/lang/String" "coder" "B") (.int 0) ∈ flatC (Jvm.Cond.and given_1 narrow_1)) i hi))
    (fun i hi => hn _ ((by decide +kernel : ∀ i : Nat, i < 9 → Cond.arrayOf (.field (cn_tm2 i) "java/lang/String" "value" "[B") .byte ∈ flatC (Jvm.Cond.and given_1 narrow_1)) i hi))
    (fun i hi => hn _ ((by decide +kernel : ∀ i : Nat, i < 9 → Cond.eq (.length (.field (cn_tm2 i) "java/lang/String" "value" "[B")) (.int (Int32.ofNat (lw_lens.getD i 0))) ∈ flatC (Jvm.Cond.and given_1 narrow_1)) i hi))
    (fun i hi j hj => hn _ ((by decide +kernel : ∀ i : Nat, i < 9 → ∀ j : Nat, j < lw_lens.getD i 0 → Cond.eq (.elem (.field (cn_tm2 i) "java/lang/String" "value" "[B") (.int (Int32.ofNat j))) (.int ((lw_byts.getD i []).getD j 0)) ∈ flatC (Jvm.Cond.and given_1 narrow_1)) i hi j hj))
    (fun i j hi hj hij => ((by decide +kernel : ∀ i : Nat, i < 9 → ∀ j : Nat, j < 9 → i ≠ j → Cond.not (Cond.eq (cn_tm2 i) (cn_tm2 j)) ∈ flatC (Jvm.Cond.and given_1 narrow_1) ∨ Cond.not (Cond.eq (cn_tm2 j) (cn_tm2 i)) ∈ flatC (Jvm.Cond.and given_1 narrow_1)) i hi j hj hij).imp (hn _) (hn _)) hA0
  obtain ⟨fm, hfm⟩ := cn_fmt (A := fun q => s.heap.size ≤ q) (hts _ (List.mem_of_getElem? (i := 437) (by decide +kernel))) (hts _ (List.mem_of_getElem? (i := 65) (by decide +kernel))) (hn _ (by decide +kernel)) hA0
  obtain ⟨d0, hd0, hT0⟩ := va_Tof (args := #[Value.ref b]) (s := s) (tm := cn_td0) (ty := .byte) (N := 100) (f := fun j => .int (Int32.ofNat (48 + j % 10))) (A := fun q => s.heap.size ≤ q) (by decide) (hn _ (by decide +kernel))
    (va_eqt (hn (Cond.eq (.length cn_td0) (.int (Int32.ofNat 100))) (by decide +kernel)))
    (fun j hj => va_eqt (hn _ (cn_dg0 j hj))) hA0
  obtain ⟨d1, hd1, hT1⟩ := va_Tof (args := #[Value.ref b]) (s := s) (tm := cn_td1) (ty := .byte) (N := 100) (f := fun j => .int (Int32.ofNat (48 + j / 10))) (A := fun q => s.heap.size ≤ q) (by decide) (hn _ (by decide +kernel))
    (va_eqt (hn (Cond.eq (.length cn_td1) (.int (Int32.ofNat 100))) (by decide +kernel)))
    (fun j hj => va_eqt (hn _ (cn_dg1 j hj))) hA0
  have htx : ∀ (i : Nat) (q : String × Nat × String), am_tx3[i]? = some q → vk_R q.1 q.2.1 q.2.2 (cn_gk ak av fm b L lk lv d0 d1 (am_tk i)) s := by
    intro i q hq
    match i, hq with
    | 0, hq => have e := Option.some.inj (hq.symm.trans (show am_tx3[0]? = some ("BeamSetter$Reader", 103, "metre") from rfl)); subst e; exact vk_R.of (hts _ (List.mem_of_getElem? (i := 407) (by decide +kernel))) (htm 0 (by decide))
    | 1, hq => have e := Option.some.inj (hq.symm.trans (show am_tx3[1]? = some ("BeamSetter$Reader", 109, "split") from rfl)); subst e; exact vk_R.of (hts _ (List.mem_of_getElem? (i := 460) (by decide +kernel))) (htm 1 (by decide))
    | 2, hq => have e := Option.some.inj (hq.symm.trans (show am_tx3[2]? = some ("BeamSetter$Reader", 111, "knee") from rfl)); subst e; exact vk_R.of (hts _ (List.mem_of_getElem? (i := 461) (by decide +kernel))) (htm 2 (by decide))
    | 3, hq => have e := Option.some.inj (hq.symm.trans (show am_tx3[3]? = some ("BeamSetter$Reader", 113, "wide") from rfl)); subst e; exact vk_R.of (hts _ (List.mem_of_getElem? (i := 462) (by decide +kernel))) (htm 3 (by decide))
    | 4, hq => have e := Option.some.inj (hq.symm.trans (show am_tx3[4]? = some ("BeamSetter$Reader", 115, "note") from rfl)); subst e; exact vk_R.of (hts _ (List.mem_of_getElem? (i := 463) (by decide +kernel))) (htm 4 (by decide))
    | 5, hq => have e := Option.some.inj (hq.symm.trans (show am_tx3[5]? = some ("BeamSetter$Reader", 117, "rest") from rfl)); subst e; exact vk_R.of (hts _ (List.mem_of_getElem? (i := 464) (by decide +kernel))) (htm 5 (by decide))
    | 6, hq => have e := Option.some.inj (hq.symm.trans (show am_tx3[6]? = some ("BeamSetterLaw", 21, " ") from rfl)); subst e; exact vk_R.of (hts _ (List.mem_of_getElem? (i := 920) (by decide +kernel))) (htm2 0 (by decide))
    | 7, hq => have e := Option.some.inj (hq.symm.trans (show am_tx3[7]? = some ("BeamSetterLaw", 58, "metre 1 2;knee ") from rfl)); subst e; exact vk_R.of (hts _ (List.mem_of_getElem? (i := 1007) (by decide +kernel))) (htm2 1 (by decide))
    | 8, hq => have e := Option.some.inj (hq.symm.trans (show am_tx3[8]? = some ("BeamSetterLaw", 67, ";wide 8 ") from rfl)); subst e; exact vk_R.of (hts _ (List.mem_of_getElem? (i := 1036) (by decide +kernel))) (htm2 2 (by decide))
    | 9, hq => have e := Option.some.inj (hq.symm.trans (show am_tx3[9]? = some ("BeamSetterLaw", 72, ";wide 16 ") from rfl)); subst e; exact vk_R.of (hts _ (List.mem_of_getElem? (i := 1040) (by decide +kernel))) (htm2 3 (by decide))
    | 10, hq => have e := Option.some.inj (hq.symm.trans (show am_tx3[10]? = some ("BeamSetterLaw", 74, ";wide 32 ") from rfl)); subst e; exact vk_R.of (hts _ (List.mem_of_getElem? (i := 1041) (by decide +kernel))) (htm2 4 (by decide))
    | 11, hq => have e := Option.some.inj (hq.symm.trans (show am_tx3[11]? = some ("BeamSetterLaw", 76, ";") from rfl)); subst e; exact vk_R.of (hts _ (List.mem_of_getElem? (i := 1042) (by decide +kernel))) (htm2 5 (by decide))
    | 12, hq => have e := Option.some.inj (hq.symm.trans (show am_tx3[12]? = some ("BeamSetterLaw", 81, "note ") from rfl)); subst e; exact vk_R.of (hts _ (List.mem_of_getElem? (i := 1043) (by decide +kernel))) (htm2 6 (by decide))
    | 13, hq => have e := Option.some.inj (hq.symm.trans (show am_tx3[13]? = some ("BeamSetterLaw", 86, "- ") from rfl)); subst e; exact vk_R.of (hts _ (List.mem_of_getElem? (i := 1044) (by decide +kernel))) (htm2 7 (by decide))
    | 14, hq => have e := Option.some.inj (hq.symm.trans (show am_tx3[14]? = some ("BeamSetterLaw", 88, "") from rfl)); subst e; exact vk_R.of (hts _ (List.mem_of_getElem? (i := 1045) (by decide +kernel))) (htm2 8 (by decide))
    | n + 15, hq => simp [am_tx3, am_txs, lw_txs] at hq
  have hnest : ∀ q ∈ cn_nest, va_Nw (.methodLinkNest "BeamSetter" q.1 q.2 "BeamSetter") s := by
    intro q hq
    simp only [cn_nest, List.mem_cons, List.not_mem_nil, or_false] at hq
    rcases hq with rfl | rfl | rfl | rfl | rfl
    · exact va_Nw.of rfl (hts _ (List.mem_of_getElem? (i := 84) (by decide +kernel)))
    · exact va_Nw.of rfl (hts _ (List.mem_of_getElem? (i := 100) (by decide +kernel)))
    · exact va_Nw.of rfl (hts _ (List.mem_of_getElem? (i := 117) (by decide +kernel)))
    · exact va_Nw.of rfl (hts _ (List.mem_of_getElem? (i := 186) (by decide +kernel)))
    · exact va_Nw.of rfl (hts _ (List.mem_of_getElem? (i := 205) (by decide +kernel)))
  have hsc : va_X b L (fun j => Int32.ofInt (xs j).toInt) s s.heap := by
    have e : (fun j => Int32.ofInt (xs j).toInt) = xs := by funext j; exact Int32.ofInt_toInt _
    rw [e]
    exact hX
  have hLt : am_Lt (cn_gk ak av fm b L lk lv d0 d1) (fun q => s.heap.size ≤ q) s s.heap :=
    ⟨vk_Scg (fun i hi => cn_gk_l hi) (fun i hi => cn_gk_w hi) hS9, ⟨va_Zof (hts _ (List.mem_of_getElem? (i := 1025) (by decide +kernel))) (hts _ (List.mem_of_getElem? (i := 68) (by decide +kernel))) hd0 hA0, hT0⟩, va_Zof (hts _ (List.mem_of_getElem? (i := 1027) (by decide +kernel))) (hts _ (List.mem_of_getElem? (i := 68) (by decide +kernel))) hd1 hA0, hT1⟩
  have hE0 : cn_E (GG (D, fun k => [cI, cZ, cB, cJ].getD k 0, fun _ => 0, l, (cn_gk ak av fm b L lk lv d0 d1, fun j => (xs j).toInt))) (fun q => s.heap.size ≤ q) s s.heap :=
    ⟨⟨vk_Scg (fun i hi => cn_gk_k hi) (fun i hi => cn_gk_v hi) hS6, va_Zof (hts _ (List.mem_of_getElem? (i := 421) (by decide +kernel))) (hts _ (List.mem_of_getElem? (i := 60) (by decide +kernel))) (va_eqi (hn _ (by decide +kernel))) hA0, hfm, ⟨hsc, hbs, hA0 _ hbs, (by show L < 2147483648; omega), hLt⟩⟩, htx, hnest⟩
  have hl8 := lv_entry [Value.ref b] (n := 8) (Nat.le_of_ble_eq_true rfl)
  rw [lg_entry_eq]
  refine (law_enter (X := (D, fun k => [cI, cZ, cB, cJ].getD k 0, fun _ => 0, l, (cn_gk ak av fm b L lk lv d0 d1, fun j => (xs j).toInt))) (A := fun q => s.heap.size ≤ q) (b := b) (fun f7 lsB hP7 => ?_)) s.heap [] ⟨⟨hx, hb, hml, hown, hTW, hr, hlk⟩, fun h => absurd h (by decide +kernel), ⟨hD, fun k q hk => ?_⟩, fun k q hk => by simp at hk, ⟨fun i j x y h => by simp at h, fun k q h => by simp at h⟩, va_S.rf, fun _ h => h, hE0, hl8⟩
  · intro H locs h
    obtain ⟨gX, gN, gK1, gP, gD1, gS1, gA1, gE, gl⟩ := h
    rw [cn_pic] at gP gD1
    have h12 : cn_mu f7.2.1 f7.2.2 2 = fun _ => 0 := cn_mu_c _ _ (by decide)
    have hgo := law_A (X := (D, fun k => [cI, cZ, cB, cJ].getD k 0, f7.1, l, (cn_gk ak av fm b L lk lv d0 d1, fun j => (xs j).toInt))) (K := (room_1, (fun _ _ s _ args below _ _ => lw_Z below args s), fun (s : State) (q : Nat) => s.heap.size ≤ q)) (cs := 45) (ss := 7140) (μ0 := cn_mu f7.2.1 f7.2.2) (fun _ _ h => h) ⟨Nat.le_of_ble_eq_true rfl, Nat.le_of_ble_eq_true rfl, Nat.le_of_ble_eq_true rfl, Nat.le_of_ble_eq_true rfl⟩ (by show ((L : Nat) : Int) ≤ 260; omega) (cn_cj hP7.1.1 hP7.1.2.1) (by show (31 : Int) < 45; decide) rfl (fun j _ _ => by rw [h12]; show (0 : Int) ≤ 0 ∧ (0 : Int) ≤ 255; decide) ⟨by decide, by decide⟩
      (fun mm qq μ D' hM hGD hDk hDb hDx h32 h45 => law_B (fun _ _ h => h) ⟨Nat.le_of_ble_eq_true rfl, Nat.le_of_ble_eq_true rfl, Nat.le_of_ble_eq_true rfl, Nat.le_of_ble_eq_true rfl⟩ (by show ((L : Nat) : Int) ≤ 260; omega) hM hGD hDk hDb hDx h32 h45 ⟨by decide, by decide⟩ (fun G' c' s' μ' h1 h2 => cn_lasts rfl h1 h2))
    refine hgo p e s m #[Value.ref b] below meth c H locs lsB ⟨gX, gK1, gP, gD1, gS1, ⟨gE.1, gE.2.1, gN⟩, lv_mono gl (fun z hz => ?_)⟩
    have hz2 : z ∈ [(0, Value.ref b), (1, .ref (f7.1 0))] := hz
    simp only [List.mem_cons, List.not_mem_nil, or_false] at hz2 ⊢
    rcases hz2 with h | h <;> simp [h]
  · match k, hk with
    | 0, hk => cases hk; exact ⟨hI1, hI2⟩
    | 1, hk => cases hk; exact ⟨hZ1, hZ2⟩
    | 2, hk => cases hk; exact ⟨hB1, hB2⟩
    | 3, hk => cases hk; exact ⟨hJ1, hJ2⟩
    | n + 4, hk => simp [cn_tys] at hk
