/-! ===== Methods that throw: what they stand on; a throw out of a frame; a call that throws ===== -/
/-- words that the tables decide and that stay, though no list of a method may hold them -/
def FWl : List Cond := [.declares ({ cls := "java/lang/RuntimeException", name := "<init>", desc := "(Ljava/lang/String;)V" } : MethodName), .declares ({ cls := "java/lang/Exception", name := "<init>", desc := "(Ljava/lang/String;)V" } : MethodName), .declares ({ cls := "java/lang/Throwable", name := "<init>", desc := "(Ljava/lang/String;)V" } : MethodName),
  .castable "java/lang/IndexOutOfBoundsException" "java/lang/IndexOutOfBoundsException", .castable "java/util/NoSuchElementException" "java/util/NoSuchElementException"]
theorem fw_move {w : Cond} {A A' : Array Value} {u U : State} (hf : w.faceAtom = true) (ho : w.onTables = true) (hvm : u.vm.Alike U.vm) (h : w.before A u = true) : w.before A' U = true := by
  have h1 := Cond.faceAtom_setVm hvm w hf h
  rw [Cond.onTables_vm (A' := A') (U' := U) U.vm w ho] at h1
  exact h1
theorem FWl_ok : ∀ w ∈ FWl, w.faceAtom = true ∧ w.onTables = true := by
  intro w hw
  simp only [FWl, List.mem_cons, List.not_mem_nil, or_false] at hw
  rcases hw with rfl | rfl | rfl | rfl | rfl <;> exact ⟨rfl, rfl⟩
def xe_F (U : State) : Prop := ∀ w ∈ FWl, w.before #[] U = true
theorem xe_F.moved {u U : State} (hvm : u.vm.Alike U.vm) (h : xe_F u) : xe_F U := fun w hw => fw_move (FWl_ok w hw).1 (FWl_ok w hw).2 hvm (h w hw)
/-- the texts of the class's throws, the two statics of Throwable -/
def xe_Tx (G : AG) (U : State) : Prop := vk_R "BeamSetter" 101 "no such ELEMENT" (gK G 14) U ∧ vk_R "BeamSetter" 138 "no such what" (gK G 15) U ∧ vk_R "BeamSetter" 174 "no such GROUP" (gK G 16) U ∧ va_Nc "java/util/NoSuchElementException" "java/lang/IndexOutOfBoundsException" U ∧ xe_F U
def xe_St (A : Nat → Prop) (U : State) (H : Heap) : Prop := vx_Zq Bundle.tN "UNASSIGNED_STACK" Bundle.steD A U H ∧ vx_Zq Bundle.tN "SUPPRESSED_SENTINEL" Bundle.listD A U H
def xe (G : AG) (sz : Nat) (U : State) : Prop := xe_Tx G U ∧ xe_St (am_A G sz) U U.heap
theorem xe.to {G : AG} {s U : State} {H : Heap} {locs : List Loc} (h : xe G s.heap.size s) (hS : va_S (am_A G s.heap.size) s.heap H locs) (hU : U.heap = H) (hW : s.WarmedH U.vm) : xe G H.size U := by
  obtain ⟨⟨t1, t2, t3, t4, t5⟩, z1, z2⟩ := h
  refine ⟨⟨vk_R.warm hW t1, vk_R.warm hW t2, vk_R.warm hW t3, t4.moved hW.alike, t5.moved hW.alike⟩, ?_, ?_⟩
  · rw [hU]
    exact ((z1.kept hS.2.1).moved hW.alike).narrow (am_A_le hS.1)
  · rw [hU]
    exact ((z2.kept hS.2.1).moved hW.alike).narrow (am_A_le hS.1)
def xe_Pc (G : AG) (sz : Nat) (args : List AV) (μ : Mu) : Array Value → State → Prop :=
  va_Pc (args.map (am_c G)) (fun U => (U.heap.size = sz ∧ va_P (gD G) vwCl (am_pic G μ) U.heap ∧ va_K (gD G) vwCl (am_tys G) U ∧ va_D (fun _ => True) (am_pic G μ) ∧ am_Env G sz U) ∧ xe G sz U)
theorem xe_Pc_blind {G : AG} {sz : Nat} {as : List AV} {μ : Mu} : FrameBlind (xe_Pc G sz as μ) := by
  intro a U g mk q
  obtain ⟨q0, ⟨q1, qP, qK, qD, qE, qT⟩, ⟨t1, t2, t3, t4, t5⟩, z1, z2⟩ := q
  exact ⟨q0, ⟨q1, qP, va_K.moved (u := U) (U := U.calling g mk a) (Vm.Alike.refl U.vm) qK, qD, am_E0.moved (u := U) (U := U.calling g mk a) (Vm.Alike.refl U.vm) qE, fun i q hq => vk_R.same (u := U) (U := U.calling g mk a) rfl (qT i q hq)⟩,
    ⟨vk_R.same (u := U) (U := U.calling g mk a) rfl t1, vk_R.same (u := U) (U := U.calling g mk a) rfl t2, vk_R.same (u := U) (U := U.calling g mk a) rfl t3, va_Nc.moved (u := U) (U := U.calling g mk a) (Vm.Alike.refl U.vm) t4, xe_F.moved (u := U) (U := U.calling g mk a) (Vm.Alike.refl U.vm) t5⟩, vx_Zq.moved (u := U) (U := U.calling g mk a) (Vm.Alike.refl U.vm) z1, vx_Zq.moved (u := U) (U := U.calling g mk a) (Vm.Alike.refl U.vm) z2⟩
theorem xe_pre {G : AG} {M : AMeth} {p : Program} {s : State} {m : MethodId} {args : Array Value} {meth : Method} {c : Code} {H : Heap} {locs : List Loc} {lsA : Array Slot} {ls as : List AV} {μ : Mu}
    (hI : am_In G M p s m args meth c H locs lsA ls μ) (hx : xe G s.heap.size s) : PreS s H (xe_Pc G H.size as μ) (as.map (am_c G)) := by
  obtain ⟨hX, hK, hP, hD, hS, hE, hl⟩ := hI
  exact ⟨xe_Pc_blind, fun U hU hW => ⟨rfl, ⟨by rw [hU], by rw [hU]; exact hP, va_K.moved hW.alike hK, hD.weaken (fun _ _ _ _ => trivial), hE.to hS hU hW⟩, hx.to hS hU hW⟩⟩
/-- what is true of an exception's end: its class, the world -/
def xe_B (G : AG) (E : String) (μ : Mu) : String → Unit → State → Prop := fun E9 _ t => E9 = E ∧ va_P (gD G) vwCl (am_pic G μ) t.heap ∧ va_K (gD G) vwCl (am_tys G) t
def xe_X (G : AG) (E : String) (μ : Mu) (sz : Nat) : String → State → State → Prop := vx_X (fun _ : Unit => True) (xe_B G E μ) (am_A G sz)
/-- an answer's end -/
def xe_Q (G : AG) (sz : Nat) (r : Int) (μ : Mu) : Array Value → State → Outcome → State → Prop := va_Qi (fun v (_ : Unit) => v = Int32.ofInt r) (fun _ t => va_P (gD G) vwCl (am_pic G μ) t.heap ∧ va_K (gD G) vwCl (am_tys G) t) (am_A G sz)
def xe_R : Room := { frames := 9, cells := 1, slots := 6, locals := 400 }
section Thr
variable {G : AG} {M M2 : AMeth} {R : Room} {p : Program} {e : Env} {s : State} {m : MethodId} {args : Array Value} {below : List Frame} {meth : Method} {c : Code} {Q : State → Prop} {cells slots : Nat} {pc : Nat} {ls ls2 st rest as : List AV} {μ μ1 : Mu} {k n : Nat}
/-- an exception that leaves this frame -/
theorem g_out {E : String} {Qc : Array Value → State → Outcome → State → Prop} {H : Heap} {locs : List Loc} {lsA : Array Slot} {q : Addr} {ce : Cell} {rs : List Value}
    (hI : am_In G M p s m args meth c H locs lsA ls μ) (ht : ∀ x ∈ c.exceptionTable.toList, False) (hq : H[q]? = some ce) (hv : ce.vm = .none) (hcl : s.vm.findClass E = some ce.cls) (h1 : cells ≤ 1) (h2 : slots ≤ 6) :
    vx_W p (gL G) e R s m args below meth c H locs cells slots (vx_MQ below Qc (xe_X G E μ s.heap.size) args s 1 6 (am_A G s.heap.size)) (F0 m pc lsA rs) q :=
  vx_out (fun x hx => (ht x hx).elim) hI.1.2.2.2.2.2.2 hq hv hcl (fun t e1 e2 => ⟨(), trivial, ⟨rfl, by rw [e1]; exact hI.2.2.1, va_K.moved e2 hI.2.1⟩, hI.2.2.2.2.1.F e1⟩) hI.2.2.2.2.1.2.2 h1 h2
/-- a contract out of a frame that may throw -/
theorem g_met {Qc : Nat → Array Value → State → Outcome → State → Prop} {XC : Nat → String → State → State → Prop} (hpl : plainName M.1.cls = true) (hlen : (lg_sl (as.map (am_c G))).length ≤ M.2.2.1) (hv : ∀ v ∈ as, v.1 < 9)
    (h : ∀ (p : Program) (e : Env) (s : State) (m : MethodId) (args : Array Value) (below : List Frame) (meth : Method) (c : Code), (∀ x ∈ c.exceptionTable.toList, False) → xe G s.heap.size s →
      Gv G M xe_R p e s m args below meth c (vx_MQ below (Qc s.heap.size) (XC s.heap.size) args s 1 6 (am_A G s.heap.size)) 0 0 0 (am_args as ++ List.replicate k (9, 0)) [] μ) (sz : Nat) :
    vx_Met (gL G) M.1 (am_ws M) xe_R (xe_Pc G sz as μ) (Qc sz) (XC sz) 1 6 (am_A G sz) := by
  refine vx_ofW (cc := M.2.1) (maxL := M.2.2.1) (ret := M.2.2.2.1) hpl rfl ?_
  intro p e s m args below meth c s₁ B hml hte hv0
  obtain ⟨rfl, ⟨hsz, hP, hK, hD0, hE⟩, hx⟩ := hv0
  subst hsz
  have hts := atoms_spec (ws := am_ws M) B.pre
  have hl := lv_entry (as.map (am_c G)) (n := M.2.2.1) hlen
  rw [lg_entry_eq]
  exact h p e s m _ below meth c hte hx s.heap [] _ ⟨⟨B.exec, B.bytes, hml, findClass_of_methodNamed B.named, fun w hw => hts w (List.mem_cons_of_mem _ hw), B.returns, B.notSynchronized⟩, hK, hP, am_pic_D hD0, va_S.rf, hE, lv_mono hl (am_l_args as 0 k hv)⟩
/-- a call that throws -/
theorem g_callX {o ci : Nat} {z : Int} {E : String} (hf : g_Cv M pc M2 n) (hR : xe_R.frames + 1 ≤ R.frames ∧ 8 + (M2.2.2.1 + 11) + xe_R.locals ≤ R.locals) (hroom : cells + 1 ≤ R.cells ∧ slots + 6 ≤ R.slots) (hx : xe G s.heap.size s) (hst : st = as.reverse ++ (2, z) :: rest) (ho : z = (o : Int)) (hs : (gS G)[o]? = some (ci, am_N ci)) (hc : (vwCl[ci]?).map (fun q => q.1) = some M2.1.cls) (hn : as.length = n) (hcat : am_cs rest ≤ 8)
    (hM : ∀ sz : Nat, vx_Met (gL G) M2.1 (am_ws M2) xe_R (xe_Pc G sz ((2, z) :: as) μ) (va_Qi (fun _ (_ : Unit) => False) (fun _ _ => True) (am_A G sz)) (xe_X G E μ1 sz) 1 6 (am_A G sz))
    (kx : ∀ (H1 : Heap) (locs1 : List Loc) (lsA : Array Slot) (q : Addr) (ce : Cell), am_In G M p s m args meth c H1 locs1 lsA ls μ1 → H1[q]? = some ce → ce.vm = .none → s.vm.findClass E = some ce.cls → vx_W p (gL G) e R s m args below meth c H1 locs1 (cells + 1) (slots + 6) Q (F0 m pc lsA (rest.map (am_c G))) q) :
    Gv G M R p e s m args below meth c Q cells slots pc ls st μ := by
  obtain ⟨idx, hd, hlink, hinst, hsel, hok⟩ := hf
  intro H locs lsA hI
  obtain ⟨hX, hK, hP, hD, hS, hE, hl⟩ := id hI
  subst hst
  have hz : 0 ≤ z := by omega
  have hzo : z.toNat = o := by omega
  obtain ⟨q, hq, hqc⟩ : ∃ q : vw_C, vwCl[ci]? = some q ∧ q.1 = M2.1.cls := by
    cases h : vwCl[ci]? with
    | none => rw [h] at hc; cases hc
    | some q => rw [h] at hc; exact ⟨q, rfl, Option.some.inj hc⟩
  have hrec := va_recv hK hP hq (am_pic_at (G := G) (μ := μ) hs (am_el_obj hs (am_cls ci q hq).2.2.2.2))
  rw [hqc] at hrec
  have hpre := xe_pre (as := (2, z) :: as) hI hx
  rw [List.map_cons, am_ref_pos hz, hzo] at hpre
  have hA : ∀ q : Nat, am_A G H.size q → am_A G s.heap.size q := am_A_le hS.1
  have hrun := vx_runV (g := F0 m pc lsA ((as.reverse ++ (2, z) :: rest).map (am_c G))) (As := as.map (am_c G)) (rest := rest.map (am_c G)) (cells := cells) (slots := slots) (R := R) (p := p) (e := e) (below := below) (meth := meth) (locs := locs) ⟨hX.1, hX.2.1, hX.2.2.1, hX.2.2.2.1, hX.2.2.2.2.1⟩ (hM H.size)
    (cwV (C := M2.1.cls) n hX.2.2.2.2.1 (am_good (by
      intro w hw
      rcases List.mem_append.mp hw with h | h
      · simp only [List.mem_cons, List.not_mem_nil, or_false] at h
        rcases h with rfl | rfl | rfl | rfl
        · exact hlink
        · exact hinst
        · exact hsel
        · exact hok.2.1
      · exact am_ws_in hok w h)) rfl rfl rfl ⟨rfl, hok.2.2.2⟩ hR) ⟨hpre.1, hrec, hpre.2⟩ rfl (by rw [List.length_map, hn]) hl.1 (by
        show (as.reverse ++ (2, z) :: rest).map (am_c G) = _
        rw [List.map_append, List.map_reverse, List.map_cons, am_ref_pos hz, hzo]) (lv_room (by rw [am_cs_eq]; exact hcat)) hd hroom
  refine vx_calli hrun hS (fun q _ h => hA q h) (fun q h => hA q h) (fun q _ h => hA q h) ?_ ?_
  · intro E9 ce q9 u t H1 locs1 ht _ _ hB _ _ hS1 hce hcv hcl
    obtain ⟨rfl, hP1, hK1⟩ := hB
    exact kx H1 locs1 lsA q9 ce (g_in hI (by rw [← ht]; exact hP1) hS1) hce hcv hcl
  · intro r u t H1 locs1 _ _ hf
    exact absurd hf (by simp)
theorem am_Cv.g (h : am_Cv M pc M2 n) : g_Cv M pc M2 n := by
  obtain ⟨idx, h1, h2, h3, h4, h5, -⟩ := h
  exact ⟨idx, h1, h2, h3, h4, h5⟩
/-- the end of a frame that answers a number -/
theorem g_iretQ {a : Int} {XC : String → State → State → Prop} (hd : decode M.2.1 pc = .ok (.ireturn, 1)) (hr : M.2.2.2.1 = some .int) (h1 : cells ≤ 1) (h2 : slots ≤ 6) :
    Gv G M R p e s m args below meth c (vx_MQ below (xe_Q G s.heap.size a μ) XC args s 1 6 (am_A G s.heap.size)) cells slots pc ls [(0, a)] μ :=
  fun H locs lsA hI => W.widen h1 h2 (vx_ret (W.iret (v := Int32.ofInt a) hI.1.1 hI.1.2.1 (hI.1.2.2.2.2.2.1.trans hr) (fun t ht hW => ⟨⟨_, (), rfl, rfl, by rw [ht]; exact hI.2.2.1, va_K.moved hW.alike hI.2.1⟩, hI.2.2.2.2.1.F ht⟩) hI.2.2.2.2.1.2.2 hd hI.1.2.2.2.2.2.2))
theorem g_i2lW {a : Int} (hd : decode M.2.1 pc = .ok (.i2l, 1)) (kk : Gv G M R p e s m args below meth c Q cells slots (pc + 1) ls ((1, (Int32.ofInt a).toInt) :: st) μ) : Gv G M R p e s m args below meth c Q cells slots pc ls ((0, a) :: st) μ :=
  fun H locs lsA hI => lv_i2l (v := Int64.ofInt (Int32.ofInt a).toInt) hI.1.1 hI.1.2.1 hd (by have h9 := am_toInt_r (Int32.ofInt a); rw [← Int64.toInt_inj, Int32.toInt_toInt64, R64.eq ⟨by have := h9.1; omega, by have := h9.2; omega⟩]) (kk H locs lsA hI)
end Thr
