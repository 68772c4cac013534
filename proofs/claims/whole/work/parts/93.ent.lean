/-! ===== The law's first calls ===== -/
set_option maxRecDepth 20000 in
theorem k_1277 : (Cond.classLink "BeamSetterLaw" (21 : Nat) "BeamSetterModel") ∈ TW := tw_in 1277 (by decide +kernel) rfl
set_option maxRecDepth 20000 in
theorem k_1278 : (Cond.instantiable "BeamSetterModel" (65 : Nat)) ∈ TW := tw_in 1278 (by decide +kernel) rfl
set_option maxRecDepth 20000 in
theorem k_1279 : (Cond.methodLink "BeamSetterLaw" (23 : Nat) ({ cls := "BeamSetterModel", name := "<init>", desc := "()V" } : MethodName)) ∈ TW := tw_in 1279 (by decide +kernel) rfl
set_option maxRecDepth 20000 in
theorem k_149 : (Cond.classLink "BeamSetterLaw" (8 : Nat) "BeamSetter") ∈ TW := tw_in 149 (by decide +kernel) rfl
set_option maxRecDepth 20000 in
theorem k_150 : (Cond.instantiable "BeamSetter" (9 : Nat)) ∈ TW := tw_in 150 (by decide +kernel) rfl
set_option maxRecDepth 20000 in
theorem k_151 : (Cond.methodLink "BeamSetterLaw" (20 : Nat) ({ cls := "BeamSetter", name := "<init>", desc := "()V" } : MethodName)) ∈ TW := tw_in 151 (by decide +kernel) rfl

def cn_P7 (f : (Nat → Nat) × Mu × Mu) : Prop := (CPS S0 0 f.2.1 ∧ f.2.1 0 14 = 0 ∧ Fr 0 2 1 0 f.2.1 (fun _ _ => 0)) ∧ CPS S0 0 f.2.2 ∧ f.2.2 0 14 = 0 ∧ Fr 0 2 1 0 f.2.2 (fun _ _ => 0)
set_option maxRecDepth 20000 in
set_option maxHeartbeats 4000000 in
theorem law_enter {X : AX} {A : Nat → Prop} {p : Program} {e : Env} {s : State} {m : MethodId} {args : Array Value} {below : List Frame} {meth : Method} {c : Code} {Q : State → Prop} {lsA : Array Slot} {b : Nat}
    (kk : ∀ (f7 : (Nat → Nat) × Mu × Mu) (f8 : Nat → Nat) (q : Nat) (lsB : Array Slot), cn_P7 f7 → Cn (GG X) X.2.1 A M_LL room_1 p e s m args below meth c Q lsB [(4, .int (Int32.ofInt 0)), (3, .ref q), (2, .ref (f8 0)), (1, .ref (f7.1 0)), (0, .ref b)] 75 21397 23 [] (cn_W7 X f7 ++ cn_W8 X f8 ++ [(q, .inl (X.2.1 3, 1, .inr (.inl fun _ => Int64.ofInt 0)))])) :
    Cn (GG X) X.2.1 A M_LL room_1 p e s m args below meth c Q lsA [(0, .ref b)] 0 0 0 [] [] := by
  refine n_new (ci := 7) (fs := cn_d7) dL_law_0 rfl k_149 k_150 k_129 cn_dv7 (Nat.le_of_ble_eq_true rfl) (Nat.le_of_ble_eq_true rfl) (fun q1 => ?_)
  refine n_dup dL_law_3 rfl ?_
  refine n_callI (M2 := M_X7_init) (xa := []) dL_law_4 k_151 ok_X7_init rfl ⟨(Nat.le_of_ble_eq_true rfl), (Nat.le_of_ble_eq_true rfl)⟩ ⟨(Nat.le_of_ble_eq_true rfl), (Nat.le_of_ble_eq_true rfl)⟩ (Nat.le_of_ble_eq_true rfl) (fun sz => c_X7_init X q1 sz) ?_
  intro f7 h7
  obtain ⟨rfl, hP7⟩ := h7
  refine n_astore (lv' := [(1, .ref (f7.1 0)), (0, .ref b)]) dL_law_7 rfl (Nat.le_of_ble_eq_true rfl) rfl (fun lsB => ?_)
  refine n_new (ci := 8) (fs := cn_d8) dL_law_8 rfl k_1277 k_1278 k_138 cn_dv8 (Nat.le_of_ble_eq_true rfl) (Nat.le_of_ble_eq_true rfl) (fun q2 => ?_)
  refine n_dup dL_law_11 rfl ?_
  refine n_callI (M2 := M_X8_init) (xa := []) dL_law_12 k_1279 ok_X8_init rfl ⟨(Nat.le_of_ble_eq_true rfl), (Nat.le_of_ble_eq_true rfl)⟩ ⟨(Nat.le_of_ble_eq_true rfl), (Nat.le_of_ble_eq_true rfl)⟩ (Nat.le_of_ble_eq_true rfl) (fun sz => c_X8_init X q2 sz) ?_
  intro f8 h8
  subst h8
  refine n_astore (lv' := [(2, .ref (f8 0)), (1, .ref (f7.1 0)), (0, .ref b)]) dL_law_15 rfl (Nat.le_of_ble_eq_true rfl) rfl (fun lsC => ?_)
  refine n_iconst (v := Int32.ofInt 1) dL_law_16 (by decide) ?_
  refine n_newJ (N := 1) dL_law_17 (by decide) (by decide) (Nat.le_of_ble_eq_true rfl) (Nat.le_of_ble_eq_true rfl) (Nat.le_of_ble_eq_true rfl) (fun q3 => ?_)
  refine n_astore (lv' := [(3, .ref q3), (2, .ref (f8 0)), (1, .ref (f7.1 0)), (0, .ref b)]) dL_law_19 rfl (Nat.le_of_ble_eq_true rfl) rfl (fun lsD => ?_)
  refine n_iconst (v := Int32.ofInt 0) dL_law_20 (by decide) ?_
  refine n_istore (lv' := [(4, .int (Int32.ofInt 0)), (3, .ref q3), (2, .ref (f8 0)), (1, .ref (f7.1 0)), (0, .ref b)]) dL_law_21 (Nat.le_of_ble_eq_true rfl) rfl (fun lsE => ?_)
  exact kk f7 f8 q3 lsE hP7
