/-! ===== The law's first call ===== -/
set_option maxRecDepth 20000 in
theorem k_74 : (Cond.classLink "BeamSetterLaw" (32 : Nat) "BeamSetter") ∈ TW := tw_in 74 (by decide +kernel) rfl
set_option maxRecDepth 20000 in
theorem k_75 : (Cond.instantiable "BeamSetter" (9 : Nat)) ∈ TW := tw_in 75 (by decide +kernel) rfl
set_option maxRecDepth 20000 in
theorem k_76 : (Cond.methodLink "BeamSetterLaw" (157 : Nat) ({ cls := "BeamSetter", name := "<init>", desc := "()V" } : MethodName)) ∈ TW := tw_in 76 (by decide +kernel) rfl

def cn_P7 (f : (Nat → Nat) × Mu × Mu) : Prop := (CPS S0 0 f.2.1 ∧ f.2.1 0 14 = 0 ∧ Fr 0 2 1 0 f.2.1 (fun _ _ => 0)) ∧ CPS S0 0 f.2.2 ∧ f.2.2 0 14 = 0 ∧ Fr 0 2 1 0 f.2.2 (fun _ _ => 0)
set_option maxRecDepth 20000 in
set_option maxHeartbeats 4000000 in
theorem law_enter {X : AX} {A : Nat → Prop} {p : Program} {e : Env} {s : State} {m : MethodId} {args : Array Value} {below : List Frame} {meth : Method} {c : Code} {Q : State → Prop} {lsA : Array Slot} {b : Nat}
    (kk : ∀ (f7 : (Nat → Nat) × Mu × Mu) (lsB : Array Slot), cn_P7 f7 → Cn (GG X) X.2.1 A M_L_law room_1 p e s m args below meth c Q lsB [(1, .ref (f7.1 0)), (0, .ref b)] 45 7140 8 [] (cn_W7 X f7)) :
    Cn (GG X) X.2.1 A M_L_law room_1 p e s m args below meth c Q lsA [(0, .ref b)] 0 0 0 [] [] := by
  refine n_new (ci := 7) (fs := cn_d7) dL_law_0 rfl k_74 k_75 k_49 cn_dv7 (Nat.le_of_ble_eq_true rfl) (Nat.le_of_ble_eq_true rfl) (fun q1 => ?_)
  refine n_dup dL_law_3 rfl ?_
  refine n_callI (M2 := M_X7_init) (xa := []) dL_law_4 k_76 ok_X7_init rfl ⟨(Nat.le_of_ble_eq_true rfl), (Nat.le_of_ble_eq_true rfl)⟩ ⟨(Nat.le_of_ble_eq_true rfl), (Nat.le_of_ble_eq_true rfl)⟩ (Nat.le_of_ble_eq_true rfl) (fun sz => c_X7_init X q1 sz) ?_
  intro f7 h7
  obtain ⟨rfl, hP7⟩ := h7
  refine n_astore (lv' := [(1, .ref (f7.1 0)), (0, .ref b)]) dL_law_7 rfl (Nat.le_of_ble_eq_true rfl) rfl (fun lsB => ?_)
  exact kk f7 lsB hP7
