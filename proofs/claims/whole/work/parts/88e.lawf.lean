/-! ===== The law's element and group: the class's, caught ===== -/
def xe_RL : Room := { frames := 10, cells := 1, slots := 6, locals := 430 }
def hhL : List (Nat × Nat × Nat × Nat) := [(0, 10, 13, 13), (0, 10, 17, 15)]
abbrev xe_ws (M : AMeth) : List Cond := Cond.codeWith M.1 M.2.1 M.2.2.1 M.2.2.2.1 hhL :: TW
abbrev xe_XN (X : AX) (sz : Nat) : String → State → State → Prop := vx_X (fun _ : Unit => False) (fun _ _ _ => True) (am_A (GG X) sz)
theorem g_metH {G : AG} {M : AMeth} {as : List AV} {k : Nat} {μ : Mu} {Qc : Nat → Array Value → State → Outcome → State → Prop} {XC : Nat → String → State → State → Prop} (hpl : plainName M.1.cls = true) (hlen : (lg_sl (as.map (am_c G))).length ≤ M.2.2.1) (hv : ∀ v ∈ as, v.1 < 9)
    (h : ∀ (p : Program) (e : Env) (s : State) (m : MethodId) (args : Array Value) (below : List Frame) (meth : Method) (c : Code), c.exceptionTable.toList = tableOf hhL → xe G s.heap.size s →
      Gv G M xe_RL p e s m args below meth c (vx_MQ below (Qc s.heap.size) (XC s.heap.size) args s 1 6 (am_A G s.heap.size)) 0 0 0 (am_args as ++ List.replicate k (9, 0)) [] μ) (sz : Nat) :
    vx_Met (gL G) M.1 (xe_ws M) xe_RL (xe_Pc G sz as μ) (Qc sz) (XC sz) 1 6 (am_A G sz) := by
  refine vx_ofWH (cc := M.2.1) (maxL := M.2.2.1) (ret := M.2.2.2.1) (hh := hhL) hpl rfl ?_
  intro p e s m args below meth c s₁ B hml hv0
  obtain ⟨rfl, ⟨hsz, hP, hK, hD0, hE⟩, hx⟩ := hv0
  subst hsz
  have hts := atoms_spec (ws := xe_ws M) B.pre
  have hl := lv_entry (as.map (am_c G)) (n := M.2.2.1) hlen
  rw [lg_entry_eq]
  exact h p e s m _ below meth c (vx_table (x := M.1) B (hts _ List.mem_cons_self)) hx s.heap [] _ ⟨⟨B.exec, B.bytes, hml, findClass_of_methodNamed B.named, fun w hw => hts w (List.mem_cons_of_mem _ hw), B.returns, B.notSynchronized⟩, hK, hP, am_pic_D hD0, va_S.rf, hE, lv_mono hl (am_l_args as 0 k hv)⟩
def g_Cl (M : AMeth) (pc : Nat) (M2 : AMeth) (n : Nat) : Prop := ∃ idx : Nat, decode M.2.1 pc = .ok (.invokestatic idx, 3) ∧ Cond.methodLink M.1.cls idx M2.1 ∈ TW ∧ Cond.static M2.1 ∈ TW ∧ Cond.initialized M2.1.cls ∈ TW ∧ Cond.codeWith M2.1 M2.2.1 M2.2.2.1 M2.2.2.2.1 hhL ∈ TW ∧ (M2.1.cls ≠ "java/lang/invoke/MethodHandle" ∧ M2.1.cls ≠ "java/lang/invoke/VarHandle" ∧ (parseMethodDescriptor M2.1.desc).map (fun d => d.parameters.length) = some n)
/-- a call of a method that catches -/
theorem g_callL {X : AX} {M M2 : AMeth} {R : Room} {p : Program} {e : Env} {s : State} {m : MethodId} {args : Array Value} {below : List Frame} {meth : Method} {c : Code} {Q : State → Prop} {cells slots pc n : Nat} {ls st rest as : List AV} {μ μ1 : Mu} {r : Int}
    (hf : g_Cl M pc M2 n) (hR : xe_RL.frames + 1 ≤ R.frames ∧ 8 + (M2.2.2.1 + 11) + xe_RL.locals ≤ R.locals) (hroom : cells + 1 ≤ R.cells ∧ slots + 6 ≤ R.slots) (hx : xe (GG X) s.heap.size s) (hst : st = as.reverse ++ rest) (hn : as.length = n) (hcat : am_cs rest ≤ 8)
    (hM : ∀ sz : Nat, vx_Met (gL (GG X)) M2.1 (xe_ws M2) xe_RL (xe_Pc (GG X) sz as μ) (xe_Q (GG X) sz r μ1) (xe_XN X sz) 1 6 (am_A (GG X) sz))
    (kk : Gv (GG X) M R p e s m args below meth c Q (cells + 1) (slots + 6) (pc + 3) ls ((0, r) :: rest) μ1) : Gv (GG X) M R p e s m args below meth c Q cells slots pc ls st μ := by
  obtain ⟨idx, hd, hlink, hstat, hini, hcw, hdesc⟩ := hf
  intro H locs lsA hI
  obtain ⟨hX, hK, hP, hD, hS, hE, hl⟩ := id hI
  subst hst
  have hA : ∀ q : Nat, am_A (GG X) H.size q → am_A (GG X) s.heap.size q := am_A_le hS.1
  have hrun := vx_runSX (hh := hhL) (g := F0 m pc lsA ((as.reverse ++ rest).map (am_c (GG X)))) (As := as.map (am_c (GG X))) (rest := rest.map (am_c (GG X))) (cells := cells) (slots := slots) (R := R) (p := p) (e := e) (below := below) (meth := meth) (locs := locs) ⟨hX.1, hX.2.1, hX.2.2.1, hX.2.2.2.1, hX.2.2.2.2.1⟩ (hM H.size)
    (vx_cwSW n hX.2.2.2.2.1 (am_good (by
      intro w hw
      rcases List.mem_append.mp hw with h | h
      · simp only [List.mem_cons, List.not_mem_nil, or_false] at h
        rcases h with rfl | rfl | rfl
        · exact hlink
        · exact hstat
        · exact hini
      · rcases List.mem_cons.mp h with rfl | h
        · exact hcw
        · exact h)) rfl rfl rfl hdesc hR) (xe_pre hI hx) rfl (by rw [List.length_map, hn]) hl.1 (by
        show (as.reverse ++ rest).map (am_c (GG X)) = _
        rw [List.map_append, List.map_reverse]) (lv_room (by rw [am_cs_eq]; exact hcat)) hd hroom
  refine vx_calli hrun hS (fun q _ h => hA q h) (fun q h => hA q h) (fun q _ h => hA q h) ?_ ?_
  · intro E9 ce q9 u t H1 locs1 _ _ hf
    exact absurd hf (by simp)
  · intro r1 u t H1 locs1 ht _ hr hB _ _ hS1
    obtain ⟨hP1, hK1⟩ := hB
    have h9 := kk H1 locs1 lsA (g_in hI (by rw [← ht]; exact hP1) hS1)
    rw [show r1 = Int32.ofInt r from hr]
    exact h9
section LE
variable {X : AX} {μ μ1 : Mu} {p9 i w z : Int}
theorem gL_law_element : g_Cl M_LL 341 M_L_element 4 := by
  have h := fun w hw => (tw_all (l := [Cond.methodLink "BeamSetterLaw" 38 yL_element, Cond.static yL_element, Cond.initialized "BeamSetterLaw", Cond.codeWith yL_element cL_element 5 (some .int) hhL]) (by decide +kernel) w hw).resolve_right (fun q => by simp [FWl] at q hw; revert q; rcases hw with rfl | rfl | rfl | rfl <;> simp)
  exact ⟨38, dL_law_341, h (Cond.methodLink "BeamSetterLaw" 38 yL_element) (by simp), h (Cond.static yL_element) (by simp), h (Cond.initialized "BeamSetterLaw") (by simp), h (Cond.codeWith yL_element cL_element 5 (some .int) hhL) (by simp), by decide +kernel, by decide +kernel, by decide +kernel⟩
theorem le_ok_element (e7 : Ev (GG X) M_X7_element 0 [(2, 0), (0, i), (0, w)] [] μ (some (0, z)) μ1) (sz : Nat) : vx_Met (gL (GG X)) M_L_element.1 (xe_ws M_L_element) xe_RL (xe_Pc (GG X) sz [(2, 0), (0, i), (0, w), (2, 74)] μ) (xe_Q (GG X) sz 0 (am_up μ1 74 0 (Int32.ofInt z).toInt)) (xe_XN X sz) 1 6 (am_A (GG X) sz) := by
  refine g_metH (k := 1) (Qc := fun sz => xe_Q (GG X) sz 0 (am_up μ1 74 0 (Int32.ofInt z).toInt)) (XC := xe_XN X) (by decide +kernel) (Nat.le_of_ble_eq_true rfl) (am_tok_spec (by rfl)) (fun p e s m args below meth c ht hx => ?_) sz
  refine g_aload_n dL_element_0 rfl rfl (by omega) ?_
  refine g_iconst dL_element_1 ?_
  refine g_aload_n dL_element_2 rfl rfl (by omega) ?_
  refine g_iload_n dL_element_3 rfl rfl ?_
  refine g_iload_n dL_element_4 rfl rfl ?_
  refine g_callV (o := 0) (ci := 7) (as := [(0, i), (0, w)]) (rest := [(0, 0), (2, 74)]) (k := 0) gL_element_5 ⟨Nat.le_of_ble_eq_true rfl, Nat.le_of_ble_eq_true rfl⟩ ⟨Nat.zero_le _, Nat.zero_le _⟩ rfl rfl rfl rfl rfl rfl rfl rfl (Nat.le_of_ble_eq_true rfl) e7 ?_
  refine g_i2lW dL_element_8 ?_
  refine g_last (o := 74) (n := 1) dL_element_9 rfl rfl (Nat.le_of_ble_eq_true rfl) (by omega) (by omega) ?_
  refine g_goto (tgt := 21) dL_element_10 rfl ?_
  refine g_iconst dL_element_21 ?_
  exact g_iretQ dL_element_22 rfl (Nat.zero_le _) (Nat.zero_le _)
theorem le_t1_element (hM : ∀ sz : Nat, vx_Met (gL (GG X)) M_X7_element.1 (am_ws M_X7_element) xe_R (xe_Pc (GG X) sz [(2, 0), (0, i), (0, w)] μ) (xe_N X sz) (xe_X (GG X) "java/lang/IndexOutOfBoundsException" μ1 sz) 1 6 (am_A (GG X) sz)) (sz : Nat) : vx_Met (gL (GG X)) M_L_element.1 (xe_ws M_L_element) xe_RL (xe_Pc (GG X) sz [(2, 0), (0, i), (0, w), (2, 74)] μ) (xe_Q (GG X) sz 1 μ1) (xe_XN X sz) 1 6 (am_A (GG X) sz) := by
  refine g_metH (k := 1) (Qc := fun sz => xe_Q (GG X) sz 1 μ1) (XC := xe_XN X) (by decide +kernel) (Nat.le_of_ble_eq_true rfl) (am_tok_spec (by rfl)) (fun p e s m args below meth c ht hx => ?_) sz
  refine g_aload_n dL_element_0 rfl rfl (by omega) ?_
  refine g_iconst dL_element_1 ?_
  refine g_aload_n dL_element_2 rfl rfl (by omega) ?_
  refine g_iload_n dL_element_3 rfl rfl ?_
  refine g_iload_n dL_element_4 rfl rfl ?_
  refine g_callX (o := 0) (ci := 7) (as := [(0, i), (0, w)]) (rest := [(0, 0), (2, 74)]) gL_element_5 ⟨Nat.le_of_ble_eq_true rfl, Nat.le_of_ble_eq_true rfl⟩ ⟨Nat.le_of_ble_eq_true rfl, Nat.le_of_ble_eq_true rfl⟩ hx rfl rfl rfl rfl rfl (Nat.le_of_ble_eq_true rfl) hM (fun H1 locs1 lsA q ce hI hq hv hcl => ?_)
  refine vx_catch (own := "BeamSetterLaw") (name := "java/lang/IndexOutOfBoundsException") hI.1.2.2.2.1 [] ⟨0, 10, 13, 13⟩ [⟨0, 10, 17, 15⟩] (by rw [ht]; rfl) (fun z hz => absurd hz List.not_mem_nil) rfl (by decide) (tw_be hI.1.2.2.2.2.1 hx.1.2.2.2.2 (xe_w3 _ List.mem_cons_self)) (tw_be hI.1.2.2.2.2.1 hx.1.2.2.2.2 (Or.inr (by simp [FWl]))) hq hv hcl ?_
  refine lv_astore hI.1.1 hI.1.2.1 dL_element_13 hI.2.2.2.2.2.2 (Nat.le_of_ble_eq_true rfl) rfl (fun ls' h' => ?_)
  exact (g_iconst (ls := []) dL_element_15 (g_iretQ dL_element_16 rfl (Nat.le_of_ble_eq_true rfl) (Nat.le_of_ble_eq_true rfl))) H1 locs1 ls' ⟨hI.1, hI.2.1, hI.2.2.1, hI.2.2.2.1, hI.2.2.2.2.1, hI.2.2.2.2.2.1, lv_mono h' (fun q hq => nomatch hq)⟩
theorem le_t2_element (hM : ∀ sz : Nat, vx_Met (gL (GG X)) M_X7_element.1 (am_ws M_X7_element) xe_R (xe_Pc (GG X) sz [(2, 0), (0, i), (0, w)] μ) (xe_N X sz) (xe_X (GG X) "java/util/NoSuchElementException" μ1 sz) 1 6 (am_A (GG X) sz)) (sz : Nat) : vx_Met (gL (GG X)) M_L_element.1 (xe_ws M_L_element) xe_RL (xe_Pc (GG X) sz [(2, 0), (0, i), (0, w), (2, 74)] μ) (xe_Q (GG X) sz 2 μ1) (xe_XN X sz) 1 6 (am_A (GG X) sz) := by
  refine g_metH (k := 1) (Qc := fun sz => xe_Q (GG X) sz 2 μ1) (XC := xe_XN X) (by decide +kernel) (Nat.le_of_ble_eq_true rfl) (am_tok_spec (by rfl)) (fun p e s m args below meth c ht hx => ?_) sz
  refine g_aload_n dL_element_0 rfl rfl (by omega) ?_
  refine g_iconst dL_element_1 ?_
  refine g_aload_n dL_element_2 rfl rfl (by omega) ?_
  refine g_iload_n dL_element_3 rfl rfl ?_
  refine g_iload_n dL_element_4 rfl rfl ?_
  refine g_callX (o := 0) (ci := 7) (as := [(0, i), (0, w)]) (rest := [(0, 0), (2, 74)]) gL_element_5 ⟨Nat.le_of_ble_eq_true rfl, Nat.le_of_ble_eq_true rfl⟩ ⟨Nat.le_of_ble_eq_true rfl, Nat.le_of_ble_eq_true rfl⟩ hx rfl rfl rfl rfl rfl (Nat.le_of_ble_eq_true rfl) hM (fun H1 locs1 lsA q ce hI hq hv hcl => ?_)
  refine vx_catch (own := "BeamSetterLaw") (name := "java/util/NoSuchElementException") hI.1.2.2.2.1 [⟨0, 10, 13, 13⟩] ⟨0, 10, 17, 15⟩ [] (by rw [ht]; rfl) (fun z hz => by rw [List.mem_singleton.mp hz]; exact Or.inr ⟨by decide, _, tw_be hI.1.2.2.2.2.1 hx.1.2.2.2.2 (xe_w3 _ List.mem_cons_self), hx.1.2.2.2.1⟩) rfl (by decide) (tw_be hI.1.2.2.2.2.1 hx.1.2.2.2.2 (xe_w3 _ (List.mem_cons_of_mem _ List.mem_cons_self))) (tw_be hI.1.2.2.2.2.1 hx.1.2.2.2.2 (Or.inr (by simp [FWl]))) hq hv hcl ?_
  refine lv_astore hI.1.1 hI.1.2.1 dL_element_17 hI.2.2.2.2.2.2 (Nat.le_of_ble_eq_true rfl) rfl (fun ls' h' => ?_)
  exact (g_iconst (ls := []) dL_element_19 (g_iretQ dL_element_20 rfl (Nat.le_of_ble_eq_true rfl) (Nat.le_of_ble_eq_true rfl))) H1 locs1 ls' ⟨hI.1, hI.2.1, hI.2.2.1, hI.2.2.2.1, hI.2.2.2.2.1, hI.2.2.2.2.2.1, lv_mono h' (fun q hq => nomatch hq)⟩
theorem gL_law_group : g_Cl M_LL 509 M_L_group 4 := by
  have h := fun w hw => (tw_all (l := [Cond.methodLink "BeamSetterLaw" 64 yL_group, Cond.static yL_group, Cond.initialized "BeamSetterLaw", Cond.codeWith yL_group cL_group 5 (some .int) hhL]) (by decide +kernel) w hw).resolve_right (fun q => by simp [FWl] at q hw; revert q; rcases hw with rfl | rfl | rfl | rfl <;> simp)
  exact ⟨64, dL_law_509, h (Cond.methodLink "BeamSetterLaw" 64 yL_group) (by simp), h (Cond.static yL_group) (by simp), h (Cond.initialized "BeamSetterLaw") (by simp), h (Cond.codeWith yL_group cL_group 5 (some .int) hhL) (by simp), by decide +kernel, by decide +kernel, by decide +kernel⟩
theorem le_ok_group (e7 : Ev (GG X) M_X7_group 0 [(2, 0), (0, i), (0, w)] [] μ (some (0, z)) μ1) (sz : Nat) : vx_Met (gL (GG X)) M_L_group.1 (xe_ws M_L_group) xe_RL (xe_Pc (GG X) sz [(2, 0), (0, i), (0, w), (2, 74)] μ) (xe_Q (GG X) sz 0 (am_up μ1 74 0 (Int32.ofInt z).toInt)) (xe_XN X sz) 1 6 (am_A (GG X) sz) := by
  refine g_metH (k := 1) (Qc := fun sz => xe_Q (GG X) sz 0 (am_up μ1 74 0 (Int32.ofInt z).toInt)) (XC := xe_XN X) (by decide +kernel) (Nat.le_of_ble_eq_true rfl) (am_tok_spec (by rfl)) (fun p e s m args below meth c ht hx => ?_) sz
  refine g_aload_n dL_group_0 rfl rfl (by omega) ?_
  refine g_iconst dL_group_1 ?_
  refine g_aload_n dL_group_2 rfl rfl (by omega) ?_
  refine g_iload_n dL_group_3 rfl rfl ?_
  refine g_iload_n dL_group_4 rfl rfl ?_
  refine g_callV (o := 0) (ci := 7) (as := [(0, i), (0, w)]) (rest := [(0, 0), (2, 74)]) (k := 0) gL_group_5 ⟨Nat.le_of_ble_eq_true rfl, Nat.le_of_ble_eq_true rfl⟩ ⟨Nat.zero_le _, Nat.zero_le _⟩ rfl rfl rfl rfl rfl rfl rfl rfl (Nat.le_of_ble_eq_true rfl) e7 ?_
  refine g_i2lW dL_group_8 ?_
  refine g_last (o := 74) (n := 1) dL_group_9 rfl rfl (Nat.le_of_ble_eq_true rfl) (by omega) (by omega) ?_
  refine g_goto (tgt := 21) dL_group_10 rfl ?_
  refine g_iconst dL_group_21 ?_
  exact g_iretQ dL_group_22 rfl (Nat.zero_le _) (Nat.zero_le _)
theorem le_t1_group (hM : ∀ sz : Nat, vx_Met (gL (GG X)) M_X7_group.1 (am_ws M_X7_group) xe_R (xe_Pc (GG X) sz [(2, 0), (0, i), (0, w)] μ) (xe_N X sz) (xe_X (GG X) "java/lang/IndexOutOfBoundsException" μ1 sz) 1 6 (am_A (GG X) sz)) (sz : Nat) : vx_Met (gL (GG X)) M_L_group.1 (xe_ws M_L_group) xe_RL (xe_Pc (GG X) sz [(2, 0), (0, i), (0, w), (2, 74)] μ) (xe_Q (GG X) sz 1 μ1) (xe_XN X sz) 1 6 (am_A (GG X) sz) := by
  refine g_metH (k := 1) (Qc := fun sz => xe_Q (GG X) sz 1 μ1) (XC := xe_XN X) (by decide +kernel) (Nat.le_of_ble_eq_true rfl) (am_tok_spec (by rfl)) (fun p e s m args below meth c ht hx => ?_) sz
  refine g_aload_n dL_group_0 rfl rfl (by omega) ?_
  refine g_iconst dL_group_1 ?_
  refine g_aload_n dL_group_2 rfl rfl (by omega) ?_
  refine g_iload_n dL_group_3 rfl rfl ?_
  refine g_iload_n dL_group_4 rfl rfl ?_
  refine g_callX (o := 0) (ci := 7) (as := [(0, i), (0, w)]) (rest := [(0, 0), (2, 74)]) gL_group_5 ⟨Nat.le_of_ble_eq_true rfl, Nat.le_of_ble_eq_true rfl⟩ ⟨Nat.le_of_ble_eq_true rfl, Nat.le_of_ble_eq_true rfl⟩ hx rfl rfl rfl rfl rfl (Nat.le_of_ble_eq_true rfl) hM (fun H1 locs1 lsA q ce hI hq hv hcl => ?_)
  refine vx_catch (own := "BeamSetterLaw") (name := "java/lang/IndexOutOfBoundsException") hI.1.2.2.2.1 [] ⟨0, 10, 13, 13⟩ [⟨0, 10, 17, 15⟩] (by rw [ht]; rfl) (fun z hz => absurd hz List.not_mem_nil) rfl (by decide) (tw_be hI.1.2.2.2.2.1 hx.1.2.2.2.2 (xe_w3 _ List.mem_cons_self)) (tw_be hI.1.2.2.2.2.1 hx.1.2.2.2.2 (Or.inr (by simp [FWl]))) hq hv hcl ?_
  refine lv_astore hI.1.1 hI.1.2.1 dL_group_13 hI.2.2.2.2.2.2 (Nat.le_of_ble_eq_true rfl) rfl (fun ls' h' => ?_)
  exact (g_iconst (ls := []) dL_group_15 (g_iretQ dL_group_16 rfl (Nat.le_of_ble_eq_true rfl) (Nat.le_of_ble_eq_true rfl))) H1 locs1 ls' ⟨hI.1, hI.2.1, hI.2.2.1, hI.2.2.2.1, hI.2.2.2.2.1, hI.2.2.2.2.2.1, lv_mono h' (fun q hq => nomatch hq)⟩
theorem le_t2_group (hM : ∀ sz : Nat, vx_Met (gL (GG X)) M_X7_group.1 (am_ws M_X7_group) xe_R (xe_Pc (GG X) sz [(2, 0), (0, i), (0, w)] μ) (xe_N X sz) (xe_X (GG X) "java/util/NoSuchElementException" μ1 sz) 1 6 (am_A (GG X) sz)) (sz : Nat) : vx_Met (gL (GG X)) M_L_group.1 (xe_ws M_L_group) xe_RL (xe_Pc (GG X) sz [(2, 0), (0, i), (0, w), (2, 74)] μ) (xe_Q (GG X) sz 2 μ1) (xe_XN X sz) 1 6 (am_A (GG X) sz) := by
  refine g_metH (k := 1) (Qc := fun sz => xe_Q (GG X) sz 2 μ1) (XC := xe_XN X) (by decide +kernel) (Nat.le_of_ble_eq_true rfl) (am_tok_spec (by rfl)) (fun p e s m args below meth c ht hx => ?_) sz
  refine g_aload_n dL_group_0 rfl rfl (by omega) ?_
  refine g_iconst dL_group_1 ?_
  refine g_aload_n dL_group_2 rfl rfl (by omega) ?_
  refine g_iload_n dL_group_3 rfl rfl ?_
  refine g_iload_n dL_group_4 rfl rfl ?_
  refine g_callX (o := 0) (ci := 7) (as := [(0, i), (0, w)]) (rest := [(0, 0), (2, 74)]) gL_group_5 ⟨Nat.le_of_ble_eq_true rfl, Nat.le_of_ble_eq_true rfl⟩ ⟨Nat.le_of_ble_eq_true rfl, Nat.le_of_ble_eq_true rfl⟩ hx rfl rfl rfl rfl rfl (Nat.le_of_ble_eq_true rfl) hM (fun H1 locs1 lsA q ce hI hq hv hcl => ?_)
  refine vx_catch (own := "BeamSetterLaw") (name := "java/util/NoSuchElementException") hI.1.2.2.2.1 [⟨0, 10, 13, 13⟩] ⟨0, 10, 17, 15⟩ [] (by rw [ht]; rfl) (fun z hz => by rw [List.mem_singleton.mp hz]; exact Or.inr ⟨by decide, _, tw_be hI.1.2.2.2.2.1 hx.1.2.2.2.2 (xe_w3 _ List.mem_cons_self), hx.1.2.2.2.1⟩) rfl (by decide) (tw_be hI.1.2.2.2.2.1 hx.1.2.2.2.2 (xe_w3 _ (List.mem_cons_of_mem _ List.mem_cons_self))) (tw_be hI.1.2.2.2.2.1 hx.1.2.2.2.2 (Or.inr (by simp [FWl]))) hq hv hcl ?_
  refine lv_astore hI.1.1 hI.1.2.1 dL_group_17 hI.2.2.2.2.2.2 (Nat.le_of_ble_eq_true rfl) rfl (fun ls' h' => ?_)
  exact (g_iconst (ls := []) dL_group_19 (g_iretQ dL_group_20 rfl (Nat.le_of_ble_eq_true rfl) (Nat.le_of_ble_eq_true rfl))) H1 locs1 ls' ⟨hI.1, hI.2.1, hI.2.2.1, hI.2.2.2.1, hI.2.2.2.2.1, hI.2.2.2.2.2.1, lv_mono h' (fun q hq => nomatch hq)⟩
end LE
