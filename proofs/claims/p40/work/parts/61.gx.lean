/-! ===== The judgement Gx: a frame in any room, to any end, over a world that may grow ===== -/
/-- room, end, the cells that may be changed -/
abbrev XKt : Type := Room × (Program → Env → State → MethodId → Array Value → List Frame → Method → Code → State → Prop) × (State → Nat → Prop)
def gx_In (K : XKt) (G : AG) (M : AMeth) (p : Program) (s : State) (m : MethodId) (args : Array Value) (meth : Method) (c : Code) (H : Heap) (locs : List Loc) (lsA : Array Slot) (ls : List AV) (μ : Mu) : Prop :=
  am_X M p s m args meth c ∧ va_K (gD G) vwCl (am_tys G) s ∧ va_P (gD G) vwCl (am_pic G μ) H ∧ va_D (K.2.2 s) (am_pic G μ) ∧ va_S (K.2.2 s) s.heap H locs ∧ (am_E0 G (K.2.2 s) s s.heap ∧ am_Tx G s ∧ (M.1.name = "<init>" → meth.name = "<init>")) ∧ lv_has lsA M.2.2.1 (am_l G 0 ls)
abbrev gx_W (K : XKt) (G : AG) (cs ss : Nat) (p : Program) (e : Env) (s : State) (m : MethodId) (args : Array Value) (below : List Frame) (meth : Method) (c : Code) (H : Heap) (locs : List Loc) (Q : State → Prop) (pc : Nat) (lsA : Array Slot) (st : List Value) : Prop :=
  W p (gL G) e K.1 s m args below meth c H locs cs ss Q (F0 m pc lsA st)
def Gx (K : XKt) (G : AG) (M : AMeth) (cs ss pc : Nat) (ls st : List AV) (μ : Mu) : Prop :=
  ∀ (p : Program) (e : Env) (s : State) (m : MethodId) (args : Array Value) (below : List Frame) (meth : Method) (c : Code) (H : Heap) (locs : List Loc) (lsA : Array Slot),
    gx_In K G M p s m args meth c H locs lsA ls μ → gx_W K G cs ss p e s m args below meth c H locs (K.2.1 p e s m args below meth c) pc lsA (st.map (am_c G))
/-- room for what a frame of M wants -/
def gx_R (K : XKt) (M : AMeth) (cs ss : Nat) : Prop := M.2.2.2.2.1 ≤ K.1.frames ∧ M.2.2.2.2.2 ≤ K.1.locals ∧ cs ≤ K.1.cells ∧ ss ≤ K.1.slots
section GxRows
variable {K : XKt} {G : AG} {M M2 : AMeth} {cs ss pc pc2 : Nat} {ls ls2 st st2 rest as : List AV} {μ μ2 : Mu} {k n : Nat}
theorem Gx.stk 
    (h : ∀ (p : Program) (e : Env) (s : State) (m : MethodId) (args : Array Value) (below : List Frame) (meth : Method) (c : Code) (H : Heap) (locs : List Loc) (lsA : Array Slot) (Q : State → Prop),
      p.tables.exec = Jvm.exec → c.code = M.2.1 → gx_In K G M p s m args meth c H locs lsA ls μ → gx_W K G cs ss p e s m args below meth c H locs Q pc2 lsA (st2.map (am_c G)) → gx_W K G cs ss p e s m args below meth c H locs Q pc lsA (st.map (am_c G)))
    (kk : Gx K G M cs ss pc2 ls st2 μ) : Gx K G M cs ss pc ls st μ :=
  fun p e s m args below meth c H locs lsA hI => h p e s m args below meth c H locs lsA _ hI.1.1 hI.1.2.1 hI (kk p e s m args below meth c H locs lsA hI)
theorem ge_iconst {n : Int} (hd : decode M.2.1 pc = .ok (.iconst n, 1)) (kk : Gx K G M cs ss (pc + 1) ls ((0, n) :: st) μ) : Gx K G M cs ss pc ls st μ :=
  Gx.stk (fun _ _ _ _ _ _ _ _ _ _ _ _ hx hb _ k => lv_iconst hx hb hd rfl k) kk
theorem ge_bipush {n : Int} (hd : decode M.2.1 pc = .ok (.bipush n, 2)) (hn : (Int8.ofInt n).toInt32 = Int32.ofInt n) (kk : Gx K G M cs ss (pc + 2) ls ((0, n) :: st) μ) : Gx K G M cs ss pc ls st μ :=
  Gx.stk (fun _ _ _ _ _ _ _ _ _ _ _ _ hx hb _ k => lv_bipush hx hb hd hn k) kk
theorem ge_sipush {n : Int} (hd : decode M.2.1 pc = .ok (.sipush n, 3)) (hn : (Int16.ofInt n).toInt32 = Int32.ofInt n) (kk : Gx K G M cs ss (pc + 3) ls ((0, n) :: st) μ) : Gx K G M cs ss pc ls st μ :=
  Gx.stk (fun _ _ _ _ _ _ _ _ _ _ _ _ hx hb _ k => lv_sipush hx hb hd hn k) kk
theorem ge_ldc {i : Nat} {v : Int32} {n : Int} (hd : decode M.2.1 pc = .ok (.ldc i, 2)) (hw : Cond.constant M.1.cls i v ∈ TW) (hn : Int32.ofInt n = v) (kk : Gx K G M cs ss (pc + 2) ls ((0, n) :: st) μ) : Gx K G M cs ss pc ls st μ :=
  Gx.stk (fun _ _ _ _ _ _ _ _ _ _ _ _ hx hb hI k => lv_ldc hx hb hI.1.2.2.2.1 (hI.1.2.2.2.2.1 _ hw) hd (by rw [← hn]; exact k)) kk
theorem ge_ldcw {i : Nat} {v : Int32} {n : Int} (hd : decode M.2.1 pc = .ok (.ldc_w i, 3)) (hw : Cond.constant M.1.cls i v ∈ TW) (hn : Int32.ofInt n = v) (kk : Gx K G M cs ss (pc + 3) ls ((0, n) :: st) μ) : Gx K G M cs ss pc ls st μ :=
  Gx.stk (fun _ _ _ _ _ _ _ _ _ _ _ _ hx hb hI k => lv_ldcw hx hb hI.1.2.2.2.1 (hI.1.2.2.2.2.1 _ hw) hd (by rw [← hn]; exact k)) kk
theorem ge_ldc2 {i : Nat} {v : Int64} {n : Int} (hd : decode M.2.1 pc = .ok (.ldc2_w i, 3)) (hw : Cond.constantLong M.1.cls i v ∈ TW) (hn : Int64.ofInt n = v) (kk : Gx K G M cs ss (pc + 3) ls ((1, n) :: st) μ) : Gx K G M cs ss pc ls st μ :=
  Gx.stk (fun _ _ _ _ _ _ _ _ _ _ _ _ hx hb hI k => lv_ldc2 hx hb hI.1.2.2.2.1 (hI.1.2.2.2.2.1 _ hw) hd (by rw [← hn]; exact k)) kk
-- loads
theorem ge_iload_n {k : Fin 4} {i : Nat} {x : Int} (hd : decode M.2.1 pc = .ok (.iload_n k, 1)) (hi : (k : Nat) = i) (hl : ls[i]? = some (0, x)) (kk : Gx K G M cs ss (pc + 1) ls ((0, x) :: st) μ) : Gx K G M cs ss pc ls st μ :=
  Gx.stk (fun _ _ _ _ _ _ _ _ _ _ _ _ hx hb hI k => lv_iload_n hx hb hd hi (am_loc hI.2.2.2.2.2.2 hl (Nat.le_of_ble_eq_true rfl)) k) kk
theorem ge_iload {i : Nat} {x : Int} (hd : decode M.2.1 pc = .ok (.iload i, 2)) (hl : ls[i]? = some (0, x)) (kk : Gx K G M cs ss (pc + 2) ls ((0, x) :: st) μ) : Gx K G M cs ss pc ls st μ :=
  Gx.stk (fun _ _ _ _ _ _ _ _ _ _ _ _ hx hb hI k => lv_iload hx hb hd (am_loc hI.2.2.2.2.2.2 hl (Nat.le_of_ble_eq_true rfl)) k) kk
theorem ge_lload_n {k : Fin 4} {i : Nat} {x : Int} (hd : decode M.2.1 pc = .ok (.lload_n k, 1)) (hi : (k : Nat) = i) (hl : ls[i]? = some (1, x)) (kk : Gx K G M cs ss (pc + 1) ls ((1, x) :: st) μ) : Gx K G M cs ss pc ls st μ :=
  Gx.stk (fun _ _ _ _ _ _ _ _ _ _ _ _ hx hb hI k => lv_lload_n hx hb hd hi (am_loc hI.2.2.2.2.2.2 hl (Nat.le_of_ble_eq_true rfl)) k) kk
theorem ge_lload {i : Nat} {x : Int} (hd : decode M.2.1 pc = .ok (.lload i, 2)) (hl : ls[i]? = some (1, x)) (kk : Gx K G M cs ss (pc + 2) ls ((1, x) :: st) μ) : Gx K G M cs ss pc ls st μ :=
  Gx.stk (fun _ _ _ _ _ _ _ _ _ _ _ _ hx hb hI k => lv_lload hx hb hd (am_loc hI.2.2.2.2.2.2 hl (Nat.le_of_ble_eq_true rfl)) k) kk
theorem ge_aload_n {k : Fin 4} {i : Nat} {x : Int} (hd : decode M.2.1 pc = .ok (.aload_n k, 1)) (hi : (k : Nat) = i) (hl : ls[i]? = some (2, x)) (h0 : 0 ≤ x) (kk : Gx K G M cs ss (pc + 1) ls ((2, x) :: st) μ) : Gx K G M cs ss pc ls st μ :=
  Gx.stk (fun _ _ _ _ _ _ _ _ _ _ _ _ hx hb hI k => lv_aload_n hx hb hd hi (by rw [← am_ref_pos h0]; exact am_loc hI.2.2.2.2.2.2 hl (Nat.le_of_ble_eq_true rfl)) (by rw [← am_ref_pos h0]; exact k)) kk
theorem ge_aload {i : Nat} {x : Int} (hd : decode M.2.1 pc = .ok (.aload i, 2)) (hl : ls[i]? = some (2, x)) (h0 : 0 ≤ x) (kk : Gx K G M cs ss (pc + 2) ls ((2, x) :: st) μ) : Gx K G M cs ss pc ls st μ :=
  Gx.stk (fun _ _ _ _ _ _ _ _ _ _ _ _ hx hb hI k => lv_aload hx hb hd (by rw [← am_ref_pos h0]; exact am_loc hI.2.2.2.2.2.2 hl (Nat.le_of_ble_eq_true rfl)) (by rw [← am_ref_pos h0]; exact k)) kk
theorem ge_aload_nS {k : Fin 4} {i : Nat} {x : Int} (hd : decode M.2.1 pc = .ok (.aload_n k, 1)) (hi : (k : Nat) = i) (hl : ls[i]? = some (3, x)) (kk : Gx K G M cs ss (pc + 1) ls ((3, x) :: st) μ) : Gx K G M cs ss pc ls st μ :=
  Gx.stk (fun _ _ _ _ _ _ _ _ _ _ _ _ hx hb hI k => lv_aload_n hx hb hd hi (am_loc hI.2.2.2.2.2.2 hl (Nat.le_of_ble_eq_true rfl)) k) kk
-- stores
theorem Gx.sto 
    (h : ∀ (p : Program) (e : Env) (s : State) (m : MethodId) (args : Array Value) (below : List Frame) (meth : Method) (c : Code) (H : Heap) (locs : List Loc) (lsA : Array Slot) (Q : State → Prop),
      p.tables.exec = Jvm.exec → c.code = M.2.1 → lv_has lsA M.2.2.1 (am_l G 0 ls) → (∀ lsB : Array Slot, lv_has lsB M.2.2.1 (am_l G 0 ls2) → gx_W K G cs ss p e s m args below meth c H locs Q pc2 lsB (st2.map (am_c G))) → gx_W K G cs ss p e s m args below meth c H locs Q pc lsA (st.map (am_c G)))
    (kk : Gx K G M cs ss pc2 ls2 st2 μ) : Gx K G M cs ss pc ls st μ :=
  fun p e s m args below meth c H locs lsA hI => h p e s m args below meth c H locs lsA _ hI.1.1 hI.1.2.1 hI.2.2.2.2.2.2 (fun lsB hB => kk p e s m args below meth c H locs lsB ⟨hI.1, hI.2.1, hI.2.2.1, hI.2.2.2.1, hI.2.2.2.2.1, hI.2.2.2.2.2.1, hB⟩)
theorem ge_istore_n {k : Fin 4} {i : Nat} {x : Int} (hd : decode M.2.1 pc = .ok (.istore_n k, 1)) (hi : (k : Nat) = i) (hn : i < M.2.2.1) (hp : am_pre ls i = true) (kk : Gx K G M cs ss (pc + 1) (ls.set i (0, x)) st μ) : Gx K G M cs ss pc ls ((0, x) :: st) μ :=
  Gx.sto (fun _ _ _ _ _ _ _ _ _ _ _ _ hx hb hl k => lv_istore_n hx hb hd hi hl hn rfl (fun ls' h' => k ls' (lv_mono h' (am_l_set1 hp)))) kk
theorem ge_istore {i : Nat} {x : Int} (hd : decode M.2.1 pc = .ok (.istore i, 2)) (hn : i < M.2.2.1) (hp : am_pre ls i = true) (kk : Gx K G M cs ss (pc + 2) (ls.set i (0, x)) st μ) : Gx K G M cs ss pc ls ((0, x) :: st) μ :=
  Gx.sto (fun _ _ _ _ _ _ _ _ _ _ _ _ hx hb hl k => lv_istore hx hb hd hl hn rfl (fun ls' h' => k ls' (lv_mono h' (am_l_set1 hp)))) kk
theorem ge_lstore_n {k : Fin 4} {i : Nat} {x : Int} (hd : decode M.2.1 pc = .ok (.lstore_n k, 1)) (hi : (k : Nat) = i) (hn : i + 1 < M.2.2.1) (hp : am_pre ls i = true) (kk : Gx K G M cs ss (pc + 1) ((ls.set i (1, x)).set (i + 1) (9, 0)) st μ) : Gx K G M cs ss pc ls ((1, x) :: st) μ :=
  Gx.sto (fun _ _ _ _ _ _ _ _ _ _ _ _ hx hb hl k => lv_lstore_n hx hb hd hi hl hn rfl (fun ls' h' => k ls' (lv_mono h' (am_l_set2 hp)))) kk
theorem ge_lstore {i : Nat} {x : Int} (hd : decode M.2.1 pc = .ok (.lstore i, 2)) (hn : i + 1 < M.2.2.1) (hp : am_pre ls i = true) (kk : Gx K G M cs ss (pc + 2) ((ls.set i (1, x)).set (i + 1) (9, 0)) st μ) : Gx K G M cs ss pc ls ((1, x) :: st) μ :=
  Gx.sto (fun _ _ _ _ _ _ _ _ _ _ _ _ hx hb hl k => lv_lstore hx hb hd hl hn rfl (fun ls' h' => k ls' (lv_mono h' (am_l_set2 hp)))) kk
theorem ge_astore_n {k : Fin 4} {i : Nat} {x : Int} (hd : decode M.2.1 pc = .ok (.astore_n k, 1)) (hi : (k : Nat) = i) (hn : i < M.2.2.1) (hp : am_pre ls i = true) (h0 : 0 ≤ x) (kk : Gx K G M cs ss (pc + 1) (ls.set i (2, x)) st μ) : Gx K G M cs ss pc ls ((2, x) :: st) μ :=
  Gx.sto (fun _ _ _ _ _ _ _ _ _ _ _ _ hx hb hl k => by
    rw [List.map_cons, am_ref_pos h0]
    exact lv_astore_n hx hb hd hi hl hn rfl (fun ls' h' => k ls' (lv_mono h' (by rw [← am_ref_pos h0]; exact am_l_set1 hp)))) kk
theorem ge_iinc {i : Nat} {x n : Int} (hd : decode M.2.1 pc = .ok (.iinc i n, 3)) (hl : ls[i]? = some (0, x)) (hn : i < M.2.2.1) (hp : am_pre ls i = true) (kk : Gx K G M cs ss (pc + 3) (ls.set i (0, x + n)) st μ) : Gx K G M cs ss pc ls st μ :=
  Gx.sto (fun _ _ _ _ _ _ _ _ _ _ _ _ hx hb h k => by
    have hm : (i, Value.int (Int32.ofInt x)) ∈ am_l G 0 ls := by
      have h9 := am_l_mem (G := G) (v := (0, x)) (Nat.le_of_ble_eq_true rfl) ls 0 i hl
      rw [Nat.zero_add] at h9
      exact h9
    obtain ⟨k0, hk0⟩ := List.mem_iff_getElem?.mp hm
    refine lv_iinc (v := Int32.ofInt (x + n)) hx hb hd h hk0 (by rw [Int32.ofInt_add]) hn rfl (fun ls' h' => k ls' (lv_mono h' ?_))
    exact am_l_set1 (v := (0, x + n)) hp) kk
-- arithmetic
theorem ge_iadd {a b : Int} (hd : decode M.2.1 pc = .ok (.iadd, 1)) (kk : Gx K G M cs ss (pc + 1) ls ((0, a + b) :: st) μ) : Gx K G M cs ss pc ls ((0, b) :: (0, a) :: st) μ :=
  Gx.stk (fun _ _ _ _ _ _ _ _ _ _ _ _ hx hb hI k => lv_iadd hx hb hd (by rw [← Int32.ofInt_add]; exact k)) kk
theorem ge_isub {a b : Int} (hd : decode M.2.1 pc = .ok (.isub, 1)) (kk : Gx K G M cs ss (pc + 1) ls ((0, a - b) :: st) μ) : Gx K G M cs ss pc ls ((0, b) :: (0, a) :: st) μ :=
  Gx.stk (fun _ _ _ _ _ _ _ _ _ _ _ _ hx hb hI k => lv_isub hx hb hd (by rw [← Int32.ofInt_sub]; exact k)) kk
theorem ge_imul {a b : Int} (hd : decode M.2.1 pc = .ok (.imul, 1)) (kk : Gx K G M cs ss (pc + 1) ls ((0, a * b) :: st) μ) : Gx K G M cs ss pc ls ((0, b) :: (0, a) :: st) μ :=
  Gx.stk (fun _ _ _ _ _ _ _ _ _ _ _ _ hx hb hI k => lv_imul hx hb hd (by rw [← Int32.ofInt_mul]; exact k)) kk
theorem ge_ladd {a b : Int} (hd : decode M.2.1 pc = .ok (.ladd, 1)) (kk : Gx K G M cs ss (pc + 1) ls ((1, a + b) :: st) μ) : Gx K G M cs ss pc ls ((1, b) :: (1, a) :: st) μ :=
  Gx.stk (fun _ _ _ _ _ _ _ _ _ _ _ _ hx hb hI k => lv_ladd hx hb hd (by rw [← Int64.ofInt_add]; exact k)) kk
theorem ge_ineg {a : Int} (hd : decode M.2.1 pc = .ok (.ineg, 1)) (kk : Gx K G M cs ss (pc + 1) ls ((0, -a) :: st) μ) : Gx K G M cs ss pc ls ((0, a) :: st) μ :=
  Gx.stk (fun _ _ _ _ _ _ _ _ _ _ _ _ hx hb hI k => lv_ineg hx hb hd (by rw [← Int32.ofInt_neg]; exact k)) kk
theorem ge_idiv {a b : Int} (hd : decode M.2.1 pc = .ok (.idiv, 1)) (ha : R32 a) (hb0 : R32 b) (h0 : b ≠ 0) (kk : Gx K G M cs ss (pc + 1) ls ((0, a.tdiv b) :: st) μ) : Gx K G M cs ss pc ls ((0, b) :: (0, a) :: st) μ :=
  Gx.stk (fun _ _ _ _ _ _ _ _ _ _ _ _ hx hb hI k => lv_idiv hx hb hd (am_ne0 hb0 h0) (by rw [← am_tdiv ha hb0]; exact k)) kk
theorem ge_irem {a b : Int} (hd : decode M.2.1 pc = .ok (.irem, 1)) (ha : R32 a) (hb0 : R32 b) (h0 : b ≠ 0) (kk : Gx K G M cs ss (pc + 1) ls ((0, a.tmod b) :: st) μ) : Gx K G M cs ss pc ls ((0, b) :: (0, a) :: st) μ :=
  Gx.stk (fun _ _ _ _ _ _ _ _ _ _ _ _ hx hb hI k => lv_irem hx hb hd (am_ne0 hb0 h0) (by rw [← am_tdiv ha hb0, ← Int32.ofInt_mul, ← Int32.ofInt_sub, show a - a.tdiv b * b = a.tmod b by rw [Int.tmod_def, Int.mul_comm]]; exact k)) kk
theorem ge_iand {a b : Int} (hd : decode M.2.1 pc = .ok (.iand, 1)) (kk : Gx K G M cs ss (pc + 1) ls ((0, am_iand a b) :: st) μ) : Gx K G M cs ss pc ls ((0, b) :: (0, a) :: st) μ :=
  Gx.stk (fun _ _ _ _ _ _ _ _ _ _ _ _ hx hb hI k => lv_iand hx hb hd (by have h9 : Int32.ofInt (am_iand a b) = Int32.ofInt a &&& Int32.ofInt b := Int32.ofInt_toInt _; rw [← h9]; exact k)) kk
theorem ge_ior {a b : Int} (hd : decode M.2.1 pc = .ok (.ior, 1)) (kk : Gx K G M cs ss (pc + 1) ls ((0, am_ior a b) :: st) μ) : Gx K G M cs ss pc ls ((0, b) :: (0, a) :: st) μ :=
  Gx.stk (fun _ _ _ _ _ _ _ _ _ _ _ _ hx hb hI k => lv_ior hx hb hd (by have h9 : Int32.ofInt (am_ior a b) = Int32.ofInt a ||| Int32.ofInt b := Int32.ofInt_toInt _; rw [← h9]; exact k)) kk
theorem ge_ishl {a b : Int} (hd : decode M.2.1 pc = .ok (.ishl, 1)) (kk : Gx K G M cs ss (pc + 1) ls ((0, am_ishl a b) :: st) μ) : Gx K G M cs ss pc ls ((0, b) :: (0, a) :: st) μ :=
  Gx.stk (fun _ _ _ _ _ _ _ _ _ _ _ _ hx hb hI k => lv_ishl hx hb hd (by have h9 : Int32.ofInt (am_ishl a b) = Int32.ofInt a <<< (Int32.ofInt b &&& 31) := Int32.ofInt_toInt _; rw [← h9]; exact k)) kk
theorem ge_ishr {a b : Int} (hd : decode M.2.1 pc = .ok (.ishr, 1)) (kk : Gx K G M cs ss (pc + 1) ls ((0, am_ishr a b) :: st) μ) : Gx K G M cs ss pc ls ((0, b) :: (0, a) :: st) μ :=
  Gx.stk (fun _ _ _ _ _ _ _ _ _ _ _ _ hx hb hI k => lv_ishr hx hb hd (by have h9 : Int32.ofInt (am_ishr a b) = Int32.ofInt a >>> (Int32.ofInt b &&& 31) := Int32.ofInt_toInt _; rw [← h9]; exact k)) kk
theorem ge_land {a b : Int} (hd : decode M.2.1 pc = .ok (.land, 1)) (kk : Gx K G M cs ss (pc + 1) ls ((1, am_land a b) :: st) μ) : Gx K G M cs ss pc ls ((1, b) :: (1, a) :: st) μ :=
  Gx.stk (fun _ _ _ _ _ _ _ _ _ _ _ _ hx hb hI k => lv_land hx hb hd (by have h9 : Int64.ofInt (am_land a b) = Int64.ofInt a &&& Int64.ofInt b := Int64.ofInt_toInt _; rw [← h9]; exact k)) kk
theorem ge_lshl {a b : Int} (hd : decode M.2.1 pc = .ok (.lshl, 1)) (kk : Gx K G M cs ss (pc + 1) ls ((1, am_lshl a b) :: st) μ) : Gx K G M cs ss pc ls ((0, b) :: (1, a) :: st) μ :=
  Gx.stk (fun _ _ _ _ _ _ _ _ _ _ _ _ hx hb hI k => lv_lshl (v := Int64.ofInt (am_lshl a b)) hx hb hd (by rw [am_lshl, Int64.ofInt_toInt]) k) kk
theorem ge_lshr {a b : Int} (hd : decode M.2.1 pc = .ok (.lshr, 1)) (kk : Gx K G M cs ss (pc + 1) ls ((1, am_lshr a b) :: st) μ) : Gx K G M cs ss pc ls ((0, b) :: (1, a) :: st) μ :=
  Gx.stk (fun _ _ _ _ _ _ _ _ _ _ _ _ hx hb hI k => lv_lshr (v := Int64.ofInt (am_lshr a b)) hx hb hd (by rw [am_lshr, Int64.ofInt_toInt]) k) kk
theorem ge_i2l {a : Int} (hd : decode M.2.1 pc = .ok (.i2l, 1)) (ha : R32 a) (kk : Gx K G M cs ss (pc + 1) ls ((1, a) :: st) μ) : Gx K G M cs ss pc ls ((0, a) :: st) μ :=
  Gx.stk (fun _ _ _ _ _ _ _ _ _ _ _ _ hx hb hI k => lv_i2l (v := Int64.ofInt a) hx hb hd (by rw [← Int64.toInt_inj, Int32.toInt_toInt64, ha.eq, R64.eq ⟨by have := ha.1; omega, by have := ha.2; omega⟩]) k) kk
theorem ge_l2i {a : Int} (hd : decode M.2.1 pc = .ok (.l2i, 1)) (kk : Gx K G M cs ss (pc + 1) ls ((0, a) :: st) μ) : Gx K G M cs ss pc ls ((1, a) :: st) μ :=
  Gx.stk (fun _ _ _ _ _ _ _ _ _ _ _ _ hx hb hI k => lv_l2i (v := Int32.ofInt a) hx hb hd (by rw [Int64.toInt32_ofInt]) k) kk
theorem ge_i2b {a : Int} (hd : decode M.2.1 pc = .ok (.i2b, 1)) (kk : Gx K G M cs ss (pc + 1) ls ((0, am_i2b a) :: st) μ) : Gx K G M cs ss pc ls ((0, a) :: st) μ :=
  Gx.stk (fun _ _ _ _ _ _ _ _ _ _ _ _ hx hb hI k => lv_i2b (v := Int32.ofInt (am_i2b a)) hx hb hd (by rw [am_i2b, Int32.ofInt_toInt]) k) kk
theorem ge_lcmp {a b : Int} (hd : decode M.2.1 pc = .ok (.lcmp, 1)) (ha : R64 a) (hb0 : R64 b) (kk : Gx K G M cs ss (pc + 1) ls ((0, am_cmp a b) :: st) μ) : Gx K G M cs ss pc ls ((1, b) :: (1, a) :: st) μ :=
  Gx.stk (fun _ _ _ _ _ _ _ _ _ _ _ _ hx hb hI k => W.lcmp hx hb hd (by rw [am_cmp_eq ha hb0]; exact k)) kk
theorem ge_dup {v : AV} (hd : decode M.2.1 pc = .ok (.dup, 1)) (hv : v.1 ≠ 1) (kk : Gx K G M cs ss (pc + 1) ls (v :: v :: st) μ) : Gx K G M cs ss pc ls (v :: st) μ :=
  Gx.stk (fun _ _ _ _ _ _ _ _ _ _ _ _ hx hb hI k => lv_dup hx hb hd (by rw [am_cat, if_neg hv]) k) kk
theorem ge_pop {v : AV} (hd : decode M.2.1 pc = .ok (.pop, 1)) (hv : v.1 ≠ 1) (kk : Gx K G M cs ss (pc + 1) ls (st) μ) : Gx K G M cs ss pc ls (v :: st) μ :=
  Gx.stk (fun _ _ _ _ _ _ _ _ _ _ _ _ hx hb hI k => lv_pop hx hb hd (by rw [am_cat, if_neg hv]) k) kk
-- branches
theorem ge_goto {off : Int} {tgt : Nat} (hd : decode M.2.1 pc = .ok (.goto off, 3)) (ht : (pc : Int) + off = (tgt : Int)) (kk : Gx K G M cs ss tgt ls st μ) : Gx K G M cs ss pc ls st μ :=
  Gx.stk (fun _ _ _ _ _ _ _ _ _ _ _ _ hx hb _ k => lv_goto hx hb hd ht k) kk
theorem ge_icmp_eq {a b off : Int} {tgt : Nat} (hd : decode M.2.1 pc = .ok (.if_icmp .eq off, 3)) (ht : (pc : Int) + off = (tgt : Int)) (ha : R32 a) (hb0 : R32 b) (kt : a = b → Gx K G M cs ss tgt ls st μ) (kf : ¬ a = b → Gx K G M cs ss (pc + 3) ls st μ) : Gx K G M cs ss pc ls ((0, b) :: (0, a) :: st) μ :=
  fun p e s m args below meth c H locs lsA hI => lv_icmp_eq hI.1.1 hI.1.2.1 hd ht (fun h => kt (am_br_eq ha hb0 h) p e s m args below meth c H locs lsA hI) (fun h => kf (am_bn_eq ha hb0 h) p e s m args below meth c H locs lsA hI)
theorem ge_if_eq {a off : Int} {tgt : Nat} (hd : decode M.2.1 pc = .ok (.ifCond .eq off, 3)) (ht : (pc : Int) + off = (tgt : Int)) (ha : R32 a) (kt : a = 0 → Gx K G M cs ss tgt ls st μ) (kf : ¬ a = 0 → Gx K G M cs ss (pc + 3) ls st μ) : Gx K G M cs ss pc ls ((0, a) :: st) μ :=
  fun p e s m args below meth c H locs lsA hI => lv_if_eq hI.1.1 hI.1.2.1 hd ht (fun h => kt (am_br_eq ha R32.zero h) p e s m args below meth c H locs lsA hI) (fun h => kf (am_bn_eq ha R32.zero h) p e s m args below meth c H locs lsA hI)
theorem ge_icmp_ne {a b off : Int} {tgt : Nat} (hd : decode M.2.1 pc = .ok (.if_icmp .ne off, 3)) (ht : (pc : Int) + off = (tgt : Int)) (ha : R32 a) (hb0 : R32 b) (kt : ¬ a = b → Gx K G M cs ss tgt ls st μ) (kf : a = b → Gx K G M cs ss (pc + 3) ls st μ) : Gx K G M cs ss pc ls ((0, b) :: (0, a) :: st) μ :=
  fun p e s m args below meth c H locs lsA hI => lv_icmp_ne hI.1.1 hI.1.2.1 hd ht (fun h => kt (am_br_ne ha hb0 h) p e s m args below meth c H locs lsA hI) (fun h => kf (am_bn_ne ha hb0 h) p e s m args below meth c H locs lsA hI)
theorem ge_if_ne {a off : Int} {tgt : Nat} (hd : decode M.2.1 pc = .ok (.ifCond .ne off, 3)) (ht : (pc : Int) + off = (tgt : Int)) (ha : R32 a) (kt : ¬ a = 0 → Gx K G M cs ss tgt ls st μ) (kf : a = 0 → Gx K G M cs ss (pc + 3) ls st μ) : Gx K G M cs ss pc ls ((0, a) :: st) μ :=
  fun p e s m args below meth c H locs lsA hI => lv_if_ne hI.1.1 hI.1.2.1 hd ht (fun h => kt (am_br_ne ha R32.zero h) p e s m args below meth c H locs lsA hI) (fun h => kf (am_bn_ne ha R32.zero h) p e s m args below meth c H locs lsA hI)
theorem ge_icmp_lt {a b off : Int} {tgt : Nat} (hd : decode M.2.1 pc = .ok (.if_icmp .lt off, 3)) (ht : (pc : Int) + off = (tgt : Int)) (ha : R32 a) (hb0 : R32 b) (kt : a < b → Gx K G M cs ss tgt ls st μ) (kf : b ≤ a → Gx K G M cs ss (pc + 3) ls st μ) : Gx K G M cs ss pc ls ((0, b) :: (0, a) :: st) μ :=
  fun p e s m args below meth c H locs lsA hI => lv_icmp_lt hI.1.1 hI.1.2.1 hd ht (fun h => kt (am_br_lt ha hb0 h) p e s m args below meth c H locs lsA hI) (fun h => kf (am_bn_lt ha hb0 h) p e s m args below meth c H locs lsA hI)
theorem ge_if_lt {a off : Int} {tgt : Nat} (hd : decode M.2.1 pc = .ok (.ifCond .lt off, 3)) (ht : (pc : Int) + off = (tgt : Int)) (ha : R32 a) (kt : a < 0 → Gx K G M cs ss tgt ls st μ) (kf : 0 ≤ a → Gx K G M cs ss (pc + 3) ls st μ) : Gx K G M cs ss pc ls ((0, a) :: st) μ :=
  fun p e s m args below meth c H locs lsA hI => lv_if_lt hI.1.1 hI.1.2.1 hd ht (fun h => kt (am_br_lt ha R32.zero h) p e s m args below meth c H locs lsA hI) (fun h => kf (am_bn_lt ha R32.zero h) p e s m args below meth c H locs lsA hI)
theorem ge_icmp_ge {a b off : Int} {tgt : Nat} (hd : decode M.2.1 pc = .ok (.if_icmp .ge off, 3)) (ht : (pc : Int) + off = (tgt : Int)) (ha : R32 a) (hb0 : R32 b) (kt : b ≤ a → Gx K G M cs ss tgt ls st μ) (kf : a < b → Gx K G M cs ss (pc + 3) ls st μ) : Gx K G M cs ss pc ls ((0, b) :: (0, a) :: st) μ :=
  fun p e s m args below meth c H locs lsA hI => lv_icmp_ge hI.1.1 hI.1.2.1 hd ht (fun h => kt (am_br_ge ha hb0 h) p e s m args below meth c H locs lsA hI) (fun h => kf (am_bn_ge ha hb0 h) p e s m args below meth c H locs lsA hI)
theorem ge_if_ge {a off : Int} {tgt : Nat} (hd : decode M.2.1 pc = .ok (.ifCond .ge off, 3)) (ht : (pc : Int) + off = (tgt : Int)) (ha : R32 a) (kt : 0 ≤ a → Gx K G M cs ss tgt ls st μ) (kf : a < 0 → Gx K G M cs ss (pc + 3) ls st μ) : Gx K G M cs ss pc ls ((0, a) :: st) μ :=
  fun p e s m args below meth c H locs lsA hI => lv_if_ge hI.1.1 hI.1.2.1 hd ht (fun h => kt (am_br_ge ha R32.zero h) p e s m args below meth c H locs lsA hI) (fun h => kf (am_bn_ge ha R32.zero h) p e s m args below meth c H locs lsA hI)
theorem ge_icmp_gt {a b off : Int} {tgt : Nat} (hd : decode M.2.1 pc = .ok (.if_icmp .gt off, 3)) (ht : (pc : Int) + off = (tgt : Int)) (ha : R32 a) (hb0 : R32 b) (kt : b < a → Gx K G M cs ss tgt ls st μ) (kf : a ≤ b → Gx K G M cs ss (pc + 3) ls st μ) : Gx K G M cs ss pc ls ((0, b) :: (0, a) :: st) μ :=
  fun p e s m args below meth c H locs lsA hI => lv_icmp_gt hI.1.1 hI.1.2.1 hd ht (fun h => kt (am_br_gt ha hb0 h) p e s m args below meth c H locs lsA hI) (fun h => kf (am_bn_gt ha hb0 h) p e s m args below meth c H locs lsA hI)
theorem ge_if_gt {a off : Int} {tgt : Nat} (hd : decode M.2.1 pc = .ok (.ifCond .gt off, 3)) (ht : (pc : Int) + off = (tgt : Int)) (ha : R32 a) (kt : 0 < a → Gx K G M cs ss tgt ls st μ) (kf : a ≤ 0 → Gx K G M cs ss (pc + 3) ls st μ) : Gx K G M cs ss pc ls ((0, a) :: st) μ :=
  fun p e s m args below meth c H locs lsA hI => lv_if_gt hI.1.1 hI.1.2.1 hd ht (fun h => kt (am_br_gt ha R32.zero h) p e s m args below meth c H locs lsA hI) (fun h => kf (am_bn_gt ha R32.zero h) p e s m args below meth c H locs lsA hI)
theorem ge_icmp_le {a b off : Int} {tgt : Nat} (hd : decode M.2.1 pc = .ok (.if_icmp .le off, 3)) (ht : (pc : Int) + off = (tgt : Int)) (ha : R32 a) (hb0 : R32 b) (kt : a ≤ b → Gx K G M cs ss tgt ls st μ) (kf : b < a → Gx K G M cs ss (pc + 3) ls st μ) : Gx K G M cs ss pc ls ((0, b) :: (0, a) :: st) μ :=
  fun p e s m args below meth c H locs lsA hI => lv_icmp_le hI.1.1 hI.1.2.1 hd ht (fun h => kt (am_br_le ha hb0 h) p e s m args below meth c H locs lsA hI) (fun h => kf (am_bn_le ha hb0 h) p e s m args below meth c H locs lsA hI)
theorem ge_if_le {a off : Int} {tgt : Nat} (hd : decode M.2.1 pc = .ok (.ifCond .le off, 3)) (ht : (pc : Int) + off = (tgt : Int)) (ha : R32 a) (kt : a ≤ 0 → Gx K G M cs ss tgt ls st μ) (kf : 0 < a → Gx K G M cs ss (pc + 3) ls st μ) : Gx K G M cs ss pc ls ((0, a) :: st) μ :=
  fun p e s m args below meth c H locs lsA hI => lv_if_le hI.1.1 hI.1.2.1 hd ht (fun h => kt (am_br_le ha R32.zero h) p e s m args below meth c H locs lsA hI) (fun h => kf (am_bn_le ha R32.zero h) p e s m args below meth c H locs lsA hI)
theorem ge_tableOut {a dflt lo hi : Int} {offs : Array Int} {len tgt : Nat} (hd : decode M.2.1 pc = .ok (.tableswitch dflt lo hi offs, len)) (ha : R32 a) (h : a < lo ∨ hi < a) (ht : (pc : Int) + dflt = (tgt : Int)) (kk : Gx K G M cs ss tgt ls st μ) : Gx K G M cs ss pc ls ((0, a) :: st) μ :=
  Gx.stk (fun _ _ _ _ _ _ _ _ _ _ _ _ hx hb _ k => lv_tableOut hx hb hd (by rw [ha.eq]; exact h) ht k) kk
theorem ge_tableIn {a dflt lo hi off : Int} {offs : Array Int} {len tgt : Nat} (hd : decode M.2.1 pc = .ok (.tableswitch dflt lo hi offs, len)) (ha : R32 a) (h1 : ¬ a < lo) (h2 : ¬ hi < a) (ho : offs[(a - lo).toNat]? = some off) (ht : (pc : Int) + off = (tgt : Int)) (kk : Gx K G M cs ss tgt ls st μ) : Gx K G M cs ss pc ls ((0, a) :: st) μ :=
  Gx.stk (fun _ _ _ _ _ _ _ _ _ _ _ _ hx hb _ k => lv_tableIn hx hb hd (by rw [ha.eq]; exact h1) (by rw [ha.eq]; exact h2) (by rw [ha.eq]; exact ho) ht k) kk
theorem ge_lookup {a dflt off : Int} {ps : Array (Int × Int)} {len tgt : Nat} (hd : decode M.2.1 pc = .ok (.lookupswitch dflt ps, len)) (hp : (ps.toList.zip (ps.toList.drop 1)).all (fun (a, next) => a.1 < next.1) = true) (ha : R32 a) (ho : Op.lookupswitch.offset ps.toList dflt a = off) (ht : (pc : Int) + off = (tgt : Int)) (kk : Gx K G M cs ss tgt ls st μ) : Gx K G M cs ss pc ls ((0, a) :: st) μ :=
  Gx.stk (fun _ _ _ _ _ _ _ _ _ _ _ _ hx hb _ k => lv_lookup hx hb hd hp (by rw [ha.eq]; exact ho) ht k) kk
-- ends
theorem gm_getf {ci k o n : Nat} (hf : am_Fg M pc ci k) (hs : (gS G)[o]? = some (ci, n)) (hn : n = am_N ci)
    {p : Program} {e : Env} {s : State} {m : MethodId} {args : Array Value} {below : List Frame} {meth : Method} {c : Code} {H : Heap} {locs : List Loc} {lsA : Array Slot} {Q : State → Prop} {rest : List Value}
    (hI : gx_In K G M p s m args meth c H locs lsA ls μ) (kk : gx_W K G cs ss p e s m args below meth c H locs Q (pc + 3) lsA (am_fv G ci o k μ :: rest)) : gx_W K G cs ss p e s m args below meth c H locs Q pc lsA (.ref (gA G o) :: rest) := by
  obtain ⟨idx, ⟨C, T, N⟩, hd, hc, hk, hw⟩ := hf
  obtain ⟨hin, hpa, hnm, hN, hci⟩ := am_cls ci _ hc
  obtain ⟨hX, hK, hP, hD, hS, hE, hl⟩ := hI
  have he := am_pic_at (G := G) (μ := μ) hs (am_el_obj hs hci)
  refine va_get (ref := (T k).1) hX.1 hX.2.1 hX.2.2.2.2.1 hin hX.2.2.2.1 hK hP o he hc k hk (hX.2.2.2.2.1 _ hw) (fun _ h => h) ?_ hd kk
  have hkn : k < n := by rw [hn, ← hN]; exact hk
  simp [List.getElem?_map, List.getElem?_range hkn]
theorem ge_getI {ci k o : Nat} {z f : Int} (hf : am_Fg M pc ci k) (ho : z = (o : Int)) (hs : (gS G)[o]? = some (ci, am_N ci)) (ht : am_ct ci k < 2) (hk : f = (k : Int)) (kk : Gx K G M cs ss (pc + 3) ls ((0, μ z f) :: st) μ) : Gx K G M cs ss pc ls ((2, z) :: st) μ := by
  subst ho; subst hk
  intro p e s m args below meth c H locs lsA hI
  rw [List.map_cons, am_ref_pos (by omega)]
  refine gm_getf hf hs rfl hI ?_
  have h9 : am_fv G ci o k μ = am_c G (0, μ o k) := by
    unfold am_fv
    match h : am_ct ci k, ht with
    | 0, _ => rfl
    | 1, _ => rfl
  rw [h9]
  exact kk p e s m args below meth c H locs lsA hI
theorem ge_getR {ci k o : Nat} {z x : Int} (hf : am_Fg M pc ci k) (ho : z = (o : Int)) (hs : (gS G)[o]? = some (ci, am_N ci)) (ht : am_ct ci k = 2) (hx : gR G o k = x) (kk : Gx K G M cs ss (pc + 3) ls ((2, x) :: st) μ) : Gx K G M cs ss pc ls ((2, z) :: st) μ := by
  subst ho; subst hx
  intro p e s m args below meth c H locs lsA hI
  rw [List.map_cons, am_ref_pos (by omega)]
  refine gm_getf hf hs rfl hI ?_
  have h9 : am_fv G ci o k μ = am_c G (2, gR G o k) := by unfold am_fv; rw [ht]; rfl
  rw [h9]
  exact kk p e s m args below meth c H locs lsA hI
theorem ge_getD {ci k o : Nat} {z f : Int} (hf : am_Fg M pc ci k) (ho : z = (o : Int)) (hs : (gS G)[o]? = some (ci, am_N ci)) (ht : am_ct ci k = 3) (hk : f = (k : Int)) (kk : Gx K G M cs ss (pc + 3) ls ((2, μ z f) :: st) μ) : Gx K G M cs ss pc ls ((2, z) :: st) μ := by
  subst ho; subst hk
  intro p e s m args below meth c H locs lsA hI
  rw [List.map_cons, am_ref_pos (by omega)]
  refine gm_getf hf hs rfl hI ?_
  have h9 : am_fv G ci o k μ = am_c G (2, μ o k) := by unfold am_fv; rw [ht]; rfl
  rw [h9]
  exact kk p e s m args below meth c H locs lsA hI
theorem gm_putf {ci k o n : Nat} {v : Int} {x : Value} (hf : am_Fp M pc ci k) (hs : (gS G)[o]? = some (ci, n)) (hn : n = am_N ci) (hx : am_fv G ci o k (am_up μ o k v) = x) (hnar : narrow (am_cty ci k) x = x) (hfit : fits (am_cty ci k) x = true)
    {p : Program} {e : Env} {s : State} {m : MethodId} {args : Array Value} {below : List Frame} {meth : Method} {c : Code} {H : Heap} {locs : List Loc} {lsA : Array Slot} {Q : State → Prop} {rest : List Value}
    (hI : gx_In K G M p s m args meth c H locs lsA ls μ) (kk : ∀ (H1 : Heap) (locs1 : List Loc), gx_In K G M p s m args meth c H1 locs1 lsA ls (am_up μ o k v) → gx_W K G cs ss p e s m args below meth c H1 locs1 Q (pc + 3) lsA rest) : gx_W K G cs ss p e s m args below meth c H locs Q pc lsA (x :: .ref (gA G o) :: rest) := by
  obtain ⟨idx, ⟨C, T, N⟩, hd, hc, hk, hw, hfin⟩ := hf
  obtain ⟨hin, hpa, hnm, hN, hci⟩ := am_cls ci _ hc
  obtain ⟨hX, hK, hP, hD, hS, hE, hl⟩ := hI
  have hkn : k < n := by rw [hn, ← hN]; exact hk
  have he := am_pic_at (G := G) (μ := μ) hs (am_el_obj hs hci)
  refine va_put (ref := (T k).1) hX.1 hX.2.1 hX.2.2.2.2.1 hin (am_cty ci) hpa hnm hX.2.2.2.1 hK hP hD hS o he hc k hk (hX.2.2.2.2.1 _ hw) (fun _ h => h) hfin (hpa k hk) hnar hfit (by simpa using hkn) hd (fun H1 locs1 hP1 hD1 hS1 => ?_)
  have h9 : (am_pic G μ).set o (gA G o, .inr (ci, ((List.range n).map fun j => am_fv G ci o j μ).set k x)) = am_pic G (am_up μ o k v) := by
    rw [am_put_list hkn hx, ← am_el_obj (G := G) hs hci]
    exact am_pic_set (fun o' h b => am_up_ne (by omega) b)
  rw [h9] at hP1 hD1
  exact kk H1 locs1 ⟨hX, hK, hP1, hD1, hS1, hE, hl⟩
theorem ge_putI {ci k o : Nat} {z f v : Int} (hf : am_Fp M pc ci k) (ho : z = (o : Int)) (hs : (gS G)[o]? = some (ci, am_N ci)) (ht : am_ct ci k = 0) (hty : am_cty ci k = .int) (hk : f = (k : Int)) (kk : Gx K G M cs ss (pc + 3) ls st (am_up μ z f v)) : Gx K G M cs ss pc ls ((0, v) :: (2, z) :: st) μ := by
  subst ho; subst hk
  intro p e s m args below meth c H locs lsA hI
  rw [List.map_cons, List.map_cons, am_ref_pos (by omega)]
  exact gm_putf (v := v) hf hs rfl (by unfold am_fv; rw [ht]; simp [am_up, am_c]) (by rw [hty]; rfl) (by rw [hty]; rfl) hI (fun H1 locs1 hI1 => kk p e s m args below meth c H1 locs1 lsA hI1)
theorem ge_putZ {ci k o : Nat} {z f v : Int} (hf : am_Fp M pc ci k) (ho : z = (o : Int)) (hs : (gS G)[o]? = some (ci, am_N ci)) (ht : am_ct ci k = 1) (hty : am_cty ci k = .boolean) (hk : f = (k : Int)) (hv : v = 0 ∨ v = 1) (kk : Gx K G M cs ss (pc + 3) ls st (am_up μ z f v)) : Gx K G M cs ss pc ls ((0, v) :: (2, z) :: st) μ := by
  subst ho; subst hk
  intro p e s m args below meth c H locs lsA hI
  rw [List.map_cons, List.map_cons, am_ref_pos (by omega)]
  exact gm_putf (v := v) hf hs rfl (by unfold am_fv; rw [ht]; simp [am_up, am_c]) (by rw [hty]; rcases hv with rfl | rfl <;> rfl) (by rw [hty]; rcases hv with rfl | rfl <;> rfl) hI (fun H1 locs1 hI1 => kk p e s m args below meth c H1 locs1 lsA hI1)
theorem ge_putD {ci k o : Nat} {z f v : Int} {C : String} (hf : am_Fp M pc ci k) (ho : z = (o : Int)) (hs : (gS G)[o]? = some (ci, am_N ci)) (ht : am_ct ci k = 3) (hty : am_cty ci k = .object C) (hk : f = (k : Int)) (hv : 0 ≤ v) (kk : Gx K G M cs ss (pc + 3) ls st (am_up μ z f v)) : Gx K G M cs ss pc ls ((2, v) :: (2, z) :: st) μ := by
  subst ho; subst hk
  intro p e s m args below meth c H locs lsA hI
  rw [List.map_cons, List.map_cons, am_ref_pos (o := (o : Int)) (by omega)]
  exact gm_putf (v := v) hf hs rfl (by unfold am_fv; rw [ht]; simp [am_up, am_c]) (by rw [hty, am_ref_pos hv]; rfl) (by rw [hty, am_ref_pos hv]; rfl) hI (fun H1 locs1 hI1 => kk p e s m args below meth c H1 locs1 lsA hI1)
-- rows of numbers
theorem ge_iald {o n : Nat} {z i : Int} (hd : decode M.2.1 pc = .ok (.iaload, 1)) (ho : z = (o : Int)) (hs : (gS G)[o]? = some (20, n)) (hn : n < 2147483648) (h0 : 0 ≤ i) (h1 : i < n) (kk : Gx K G M cs ss (pc + 1) ls ((0, μ z i) :: st) μ) : Gx K G M cs ss pc ls ((0, i) :: (2, z) :: st) μ := by
  subst ho
  intro p e s m args below meth c H locs lsA hI
  obtain ⟨hi, hj⟩ := am_clamp h0 h1 hn
  rw [List.map_cons, List.map_cons, am_ref_pos (by omega)]
  refine va_iald hI.1.1 hI.1.2.1 hI.2.1 hI.2.2.1 o 0 (am_pic_at hs (am_el_row hs (by decide))) rfl hi hd ?_
  rw [hj]
  exact kk p e s m args below meth c H locs lsA hI
theorem ge_zald {o n : Nat} {z i : Int} (hd : decode M.2.1 pc = .ok (.baload, 1)) (ho : z = (o : Int)) (hs : (gS G)[o]? = some (21, n)) (hn : n < 2147483648) (h0 : 0 ≤ i) (h1 : i < n) (kk : Gx K G M cs ss (pc + 1) ls ((0, μ z i) :: st) μ) : Gx K G M cs ss pc ls ((0, i) :: (2, z) :: st) μ := by
  subst ho
  intro p e s m args below meth c H locs lsA hI
  obtain ⟨hi, hj⟩ := am_clamp h0 h1 hn
  rw [List.map_cons, List.map_cons, am_ref_pos (by omega)]
  refine va_zald hI.1.1 hI.1.2.1 hI.2.1 hI.2.2.1 o 1 (am_pic_at hs (am_el_row hs (by decide))) rfl hi hd ?_
  rw [hj]
  exact kk p e s m args below meth c H locs lsA hI
theorem ge_bald {o n : Nat} {z i : Int} (hd : decode M.2.1 pc = .ok (.baload, 1)) (ho : z = (o : Int)) (hs : (gS G)[o]? = some (22, n)) (hn : n < 2147483648) (h0 : 0 ≤ i) (h1 : i < n) (kk : Gx K G M cs ss (pc + 1) ls ((0, μ z i) :: st) μ) : Gx K G M cs ss pc ls ((0, i) :: (2, z) :: st) μ := by
  subst ho
  intro p e s m args below meth c H locs lsA hI
  obtain ⟨hi, hj⟩ := am_clamp h0 h1 hn
  rw [List.map_cons, List.map_cons, am_ref_pos (by omega)]
  refine va_bald hI.1.1 hI.1.2.1 hI.2.1 hI.2.2.1 o 2 (am_pic_at hs (am_el_row hs (by decide))) rfl hi hd ?_
  rw [hj]
  exact kk p e s m args below meth c H locs lsA hI
theorem ge_lald {o n : Nat} {z i : Int} (hd : decode M.2.1 pc = .ok (.laload, 1)) (ho : z = (o : Int)) (hs : (gS G)[o]? = some (23, n)) (hn : n < 2147483648) (h0 : 0 ≤ i) (h1 : i < n) (kk : Gx K G M cs ss (pc + 1) ls ((1, μ z i) :: st) μ) : Gx K G M cs ss pc ls ((0, i) :: (2, z) :: st) μ := by
  subst ho
  intro p e s m args below meth c H locs lsA hI
  obtain ⟨hi, hj⟩ := am_clamp h0 h1 hn
  rw [List.map_cons, List.map_cons, am_ref_pos (by omega)]
  refine va_lald hI.1.1 hI.1.2.1 hI.2.1 hI.2.2.1 o 3 (am_pic_at hs (am_el_rowL hs)) rfl hi hd ?_
  rw [hj]
  exact kk p e s m args below meth c H locs lsA hI
theorem ge_iast {o n : Nat} {z i v : Int} (hd : decode M.2.1 pc = .ok (.iastore, 1)) (ho : z = (o : Int)) (hs : (gS G)[o]? = some (20, n)) (hn : n < 2147483648) (h0 : 0 ≤ i) (h1 : i < n) (kk : Gx K G M cs ss (pc + 1) ls st (am_up μ z i v)) : Gx K G M cs ss pc ls ((0, v) :: (0, i) :: (2, z) :: st) μ := by
  subst ho
  intro p e s m args below meth c H locs lsA hI
  obtain ⟨hi, hj⟩ := am_clamp h0 h1 hn
  rw [List.map_cons, List.map_cons, List.map_cons, am_ref_pos (by omega)]
  refine va_iast hI.1.1 hI.1.2.1 hI.2.1 hI.2.2.1 hI.2.2.2.1 hI.2.2.2.2.1 o 0 (am_pic_at hs (am_el_row hs (by decide))) rfl hi hd (fun H1 locs1 hP1 hD1 hS1 => ?_)
  rw [am_row_set (t := 0) hs (by decide) hj] at hP1 hD1
  exact kk p e s m args below meth c H1 locs1 lsA ⟨hI.1, hI.2.1, hP1, hD1, hS1, hI.2.2.2.2.2⟩
theorem ge_last {o n : Nat} {z i v : Int} (hd : decode M.2.1 pc = .ok (.lastore, 1)) (ho : z = (o : Int)) (hs : (gS G)[o]? = some (23, n)) (hn : n < 2147483648) (h0 : 0 ≤ i) (h1 : i < n) (kk : Gx K G M cs ss (pc + 1) ls st (am_up μ z i v)) : Gx K G M cs ss pc ls ((1, v) :: (0, i) :: (2, z) :: st) μ := by
  subst ho
  intro p e s m args below meth c H locs lsA hI
  obtain ⟨hi, hj⟩ := am_clamp h0 h1 hn
  rw [List.map_cons, List.map_cons, List.map_cons, am_ref_pos (by omega)]
  refine va_last hI.1.1 hI.1.2.1 hI.2.1 hI.2.2.1 hI.2.2.2.1 hI.2.2.2.2.1 o 3 (am_pic_at hs (am_el_rowL hs)) rfl hi hd (fun H1 locs1 hP1 hD1 hS1 => ?_)
  rw [am_row_setL hs hj] at hP1 hD1
  exact kk p e s m args below meth c H1 locs1 lsA ⟨hI.1, hI.2.1, hP1, hD1, hS1, hI.2.2.2.2.2⟩
theorem ge_zast {o n : Nat} {z i v : Int} (hd : decode M.2.1 pc = .ok (.bastore, 1)) (ho : z = (o : Int)) (hs : (gS G)[o]? = some (21, n)) (hn : n < 2147483648) (h0 : 0 ≤ i) (h1 : i < n) (hv : v = 0 ∨ v = 1) (kk : Gx K G M cs ss (pc + 1) ls st (am_up μ z i v)) : Gx K G M cs ss pc ls ((0, v) :: (0, i) :: (2, z) :: st) μ := by
  subst ho
  intro p e s m args below meth c H locs lsA hI
  obtain ⟨hi, hj⟩ := am_clamp h0 h1 hn
  rw [List.map_cons, List.map_cons, List.map_cons, am_ref_pos (by omega)]
  refine va_zast hI.1.1 hI.1.2.1 hI.2.1 hI.2.2.1 hI.2.2.2.1 hI.2.2.2.2.1 o 1 (am_pic_at hs (am_el_row hs (by decide))) rfl hi hd (fun H1 locs1 hP1 hD1 hS1 => ?_)
  have hnar : vp_nar .boolean (Int32.ofInt v) = Int32.ofInt v := by rcases hv with rfl | rfl <;> decide
  rw [hnar, am_row_set (t := 1) hs (by decide) hj] at hP1 hD1
  exact kk p e s m args below meth c H1 locs1 lsA ⟨hI.1, hI.2.1, hP1, hD1, hS1, hI.2.2.2.2.2⟩
theorem ge_bast {o n : Nat} {z i v : Int} (hd : decode M.2.1 pc = .ok (.bastore, 1)) (ho : z = (o : Int)) (hs : (gS G)[o]? = some (22, n)) (hn : n < 2147483648) (h0 : 0 ≤ i) (h1 : i < n) (kk : Gx K G M cs ss (pc + 1) ls st (am_up μ z i (am_i2b v))) : Gx K G M cs ss pc ls ((0, v) :: (0, i) :: (2, z) :: st) μ := by
  subst ho
  intro p e s m args below meth c H locs lsA hI
  obtain ⟨hi, hj⟩ := am_clamp h0 h1 hn
  rw [List.map_cons, List.map_cons, List.map_cons, am_ref_pos (by omega)]
  refine va_bast hI.1.1 hI.1.2.1 hI.2.1 hI.2.2.1 hI.2.2.2.1 hI.2.2.2.2.1 o 2 (am_pic_at hs (am_el_row hs (by decide))) rfl hi hd (fun H1 locs1 hP1 hD1 hS1 => ?_)
  have hnar : vp_nar .byte (Int32.ofInt v) = Int32.ofInt (am_i2b v) := by rw [am_i2b, Int32.ofInt_toInt]; rfl
  rw [hnar, am_row_set (t := 2) hs (by decide) hj] at hP1 hD1
  exact kk p e s m args below meth c H1 locs1 lsA ⟨hI.1, hI.2.1, hP1, hD1, hS1, hI.2.2.2.2.2⟩
theorem ge_alen {o n t : Nat} {z f : Int} (hd : decode M.2.1 pc = .ok (.arraylength, 1)) (ho : z = (o : Int)) (hs : (gS G)[o]? = some (t + 20, n)) (ht : t < 3) (hf : f = (n : Int)) (kk : Gx K G M cs ss (pc + 1) ls ((0, f) :: st) μ) : Gx K G M cs ss pc ls ((2, z) :: st) μ := by
  subst ho; subst hf
  intro p e s m args below meth c H locs lsA hI
  rw [List.map_cons, am_ref_pos (by omega)]
  obtain ⟨ty, hty⟩ : ∃ ty, (am_tys G)[t]? = some (gC G t, ty) := by
    match t, ht with
    | 0, _ => exact ⟨_, rfl⟩
    | 1, _ => exact ⟨_, rfl⟩
    | 2, _ => exact ⟨_, rfl⟩
  exact va_alen (v := Int32.ofInt n) hI.1.1 hI.1.2.1 hI.2.1 hI.2.2.1 o t (am_pic_at hs (am_el_row hs ht)) hty (by rw [Int32.ofInt_eq_ofNat]) hd (kk p e s m args below meth c H locs lsA hI)
theorem ge_alenL {o n : Nat} {z f : Int} (hd : decode M.2.1 pc = .ok (.arraylength, 1)) (ho : z = (o : Int)) (hs : (gS G)[o]? = some (23, n)) (hf : f = (n : Int)) (kk : Gx K G M cs ss (pc + 1) ls ((0, f) :: st) μ) : Gx K G M cs ss pc ls ((2, z) :: st) μ := by
  subst ho; subst hf
  intro p e s m args below meth c H locs lsA hI
  rw [List.map_cons, am_ref_pos (by omega)]
  exact va_alen (v := Int32.ofInt n) hI.1.1 hI.1.2.1 hI.2.1 hI.2.2.1 o 3 (am_pic_at hs (am_el_rowL hs)) (ty := .long) rfl (by rw [Int32.ofInt_eq_ofNat]) hd (kk p e s m args below meth c H locs lsA hI)
theorem ge_getIx {ci k o : Nat} {z f x : Int} (hf : am_Fg M pc ci k) (ho : z = (o : Int)) (hs : (gS G)[o]? = some (ci, am_N ci)) (ht : am_ct ci k < 2) (hk : f = (k : Int)) (hx : μ z f = x) (kk : Gx K G M cs ss (pc + 3) ls ((0, x) :: st) μ) : Gx K G M cs ss pc ls ((2, z) :: st) μ := by subst hx; exact ge_getI hf ho hs ht hk kk
theorem ge_getDx {ci k o : Nat} {z f x : Int} (hf : am_Fg M pc ci k) (ho : z = (o : Int)) (hs : (gS G)[o]? = some (ci, am_N ci)) (ht : am_ct ci k = 3) (hk : f = (k : Int)) (hx : μ z f = x) (kk : Gx K G M cs ss (pc + 3) ls ((2, x) :: st) μ) : Gx K G M cs ss pc ls ((2, z) :: st) μ := by subst hx; exact ge_getD hf ho hs ht hk kk
theorem ge_ialdx {o n : Nat} {z i x : Int} (hd : decode M.2.1 pc = .ok (.iaload, 1)) (ho : z = (o : Int)) (hs : (gS G)[o]? = some (20, n)) (hn : n < 2147483648) (h0 : 0 ≤ i ∧ i < n) (hx : μ z i = x) (kk : Gx K G M cs ss (pc + 1) ls ((0, x) :: st) μ) : Gx K G M cs ss pc ls ((0, i) :: (2, z) :: st) μ := by subst hx; exact ge_iald hd ho hs hn h0.1 h0.2 kk
theorem ge_zaldx {o n : Nat} {z i x : Int} (hd : decode M.2.1 pc = .ok (.baload, 1)) (ho : z = (o : Int)) (hs : (gS G)[o]? = some (21, n)) (hn : n < 2147483648) (h0 : 0 ≤ i ∧ i < n) (hx : μ z i = x) (kk : Gx K G M cs ss (pc + 1) ls ((0, x) :: st) μ) : Gx K G M cs ss pc ls ((0, i) :: (2, z) :: st) μ := by subst hx; exact ge_zald hd ho hs hn h0.1 h0.2 kk
theorem ge_baldx {o n : Nat} {z i x : Int} (hd : decode M.2.1 pc = .ok (.baload, 1)) (ho : z = (o : Int)) (hs : (gS G)[o]? = some (22, n)) (hn : n < 2147483648) (h0 : 0 ≤ i ∧ i < n) (hx : μ z i = x) (kk : Gx K G M cs ss (pc + 1) ls ((0, x) :: st) μ) : Gx K G M cs ss pc ls ((0, i) :: (2, z) :: st) μ := by subst hx; exact ge_bald hd ho hs hn h0.1 h0.2 kk
theorem ge_laldx {o n : Nat} {z i x : Int} (hd : decode M.2.1 pc = .ok (.laload, 1)) (ho : z = (o : Int)) (hs : (gS G)[o]? = some (23, n)) (hn : n < 2147483648) (h0 : 0 ≤ i ∧ i < n) (hx : μ z i = x) (kk : Gx K G M cs ss (pc + 1) ls ((1, x) :: st) μ) : Gx K G M cs ss pc ls ((0, i) :: (2, z) :: st) μ := by subst hx; exact ge_lald hd ho hs hn h0.1 h0.2 kk
theorem ge_idivP {a b : Int} (hd : decode M.2.1 pc = .ok (.idiv, 1)) (h : (0 ≤ a ∧ a ≤ 2147483647) ∧ (0 < b ∧ b ≤ 2147483647)) (kk : Gx K G M cs ss (pc + 1) ls ((0, a / b) :: st) μ) : Gx K G M cs ss pc ls ((0, b) :: (0, a) :: st) μ := by
  rw [← Int.tdiv_eq_ediv_of_nonneg h.1.1] at kk
  exact ge_idiv hd ⟨by omega, by omega⟩ ⟨by omega, by omega⟩ (by omega) kk
theorem ge_iremP {a b : Int} (hd : decode M.2.1 pc = .ok (.irem, 1)) (h : (0 ≤ a ∧ a ≤ 2147483647) ∧ (0 < b ∧ b ≤ 2147483647)) (kk : Gx K G M cs ss (pc + 1) ls ((0, a % b) :: st) μ) : Gx K G M cs ss pc ls ((0, b) :: (0, a) :: st) μ := by
  rw [← Int.tmod_eq_emod_of_nonneg h.1.1] at kk
  exact ge_irem hd ⟨by omega, by omega⟩ ⟨by omega, by omega⟩ (by omega) kk
theorem ge_ixor {a b : Int} (hd : decode M.2.1 pc = .ok (.ixor, 1)) (kk : Gx K G M cs ss (pc + 1) ls ((0, am_ixor a b) :: st) μ) : Gx K G M cs ss pc ls ((0, b) :: (0, a) :: st) μ :=
  Gx.stk (fun _ _ _ _ _ _ _ _ _ _ _ _ hx hb hI k => lv_ixor hx hb hd (by have h9 : Int32.ofInt (am_ixor a b) = Int32.ofInt a ^^^ Int32.ofInt b := Int32.ofInt_toInt _; rw [← h9]; exact k)) kk
theorem ge_slen (hd : decode M.2.1 pc = .ok (.arraylength, 1)) (kk : Gx K G M cs ss (pc + 1) ls ((0, (gK G 14 : Int)) :: st) μ) : Gx K G M cs ss pc ls ((3, 13) :: st) μ := by
  intro p e s m args below meth c H locs lsA hI
  obtain ⟨hX, hbl, hbA, hL, -⟩ := hI.2.2.2.2.2.1.1.2.2.2
  refine va_slen hI.1.1 hI.1.2.1 hX hbl hbA hI.2.2.2.2.1 hd ?_
  have h9 := kk p e s m args below meth c H locs lsA hI
  rw [List.map_cons, show am_c G (0, (gK G 14 : Int)) = .int (Int32.ofNat (gK G 14)) from congrArg Value.int (Int32.ofInt_eq_ofNat ..)] at h9
  exact h9
theorem ge_sld {i : Int} (hd : decode M.2.1 pc = .ok (.iaload, 1)) (hi : 0 ≤ i ∧ i < (gK G 14 : Int)) (kk : Gx K G M cs ss (pc + 1) ls ((0, sx G i) :: st) μ) : Gx K G M cs ss pc ls ((0, i) :: (3, 13) :: st) μ := by
  intro p e s m args below meth c H locs lsA hI
  obtain ⟨hX, hbl, hbA, hL, -⟩ := hI.2.2.2.2.2.1.1.2.2.2
  obtain ⟨h1, h2⟩ := am_clamp (i := i) (n := gK G 14) hi.1 hi.2 hL
  have h3 : (Int32.ofInt i).toNatClampNeg = i.toNat := by omega
  refine va_sld hI.1.1 hI.1.2.1 hX hbl hbA hI.2.2.2.2.1 h1 hd ?_
  rw [h3]
  have h9 := kk p e s m args below meth c H locs lsA hI
  rw [List.map_cons, show am_c G (0, sx G i) = .int (Int32.ofInt (gX G i.toNat)) from congrArg Value.int (Int32.ofInt_toInt _)] at h9
  exact h9
theorem ge_ldcS {i : Nat} {q : Nat × String} {z : Int} (hd : decode M.2.1 pc = .ok (.ldc q.1, 2)) (hc : M.1.cls = "BeamSetter$Reader") (hq : am_txs[i]? = some q) (hz : z = (i : Int)) (kk : Gx K G M cs ss (pc + 2) ls ((3, z) :: st) μ) : Gx K G M cs ss pc ls st μ := by
  subst hz
  have hi : i < 6 := (List.getElem?_eq_some_iff.mp hq).1
  have h3 : am_tx3[i]? = some ("BeamSetter$Reader", q.1, q.2) := by
    unfold am_tx3
    rw [List.getElem?_append_left (by rw [List.length_map]; exact hi), List.getElem?_map, hq]
    rfl
  exact Gx.stk (fun _ _ _ _ _ _ _ _ _ _ _ _ hx hb hI k => va_ldcS hx hb (own := "BeamSetter$Reader") (by rw [← hc]; exact hI.1.2.2.2.1) (by have h9 := hI.2.2.2.2.2.1.2.1 i _ h3; unfold am_tk at h9; rw [if_pos hi] at h9; exact h9) hd k) kk
theorem ge_ldcL {i : Nat} {q : Nat × String} {z : Int} (hd : decode M.2.1 pc = .ok (.ldc q.1, 2)) (hc : M.1.cls = "BeamSetterLaw") (hq : lw_txs[i]? = some q) (hz : z = ((20 + i : Nat) : Int)) (kk : Gx K G M cs ss (pc + 2) ls ((3, z) :: st) μ) : Gx K G M cs ss pc ls st μ := by
  subst hz
  have h3 : am_tx3[6 + i]? = some ("BeamSetterLaw", q.1, q.2) := by
    unfold am_tx3
    rw [List.getElem?_append_right (by rw [List.length_map]; show 6 ≤ 6 + i; omega), List.length_map, List.getElem?_map]
    show (lw_txs[6 + i - 6]?).map _ = _
    rw [show 6 + i - 6 = i by omega, hq]
    rfl
  exact Gx.stk (fun _ _ _ _ _ _ _ _ _ _ _ _ hx hb hI k => va_ldcS hx hb (own := "BeamSetterLaw") (by rw [← hc]; exact hI.1.2.2.2.1) (by have h9 := hI.2.2.2.2.2.1.2.1 (6 + i) _ h3; unfold am_tk at h9; rw [if_neg (by omega), show 14 + (6 + i) = 20 + i by omega] at h9; exact h9) hd k) kk
theorem ge_coderK {i : Nat} {z : Int} (hd : decode M.2.1 pc = .ok (.getfield 15, 3)) (hc : M.1.cls = "java/lang/String") (hi : i < 6) (hz : z = (i : Int)) (kk : Gx K G M cs ss (pc + 3) ls ((0, 0) :: st) μ) : Gx K G M cs ss pc ls ((3, z) :: st) μ := by
  subst hz
  exact Gx.stk (fun _ _ _ _ _ _ _ _ _ _ _ _ hx hb hI k => vk_getf (v := .int 0) hx hb (hI.2.2.2.2.2.1.1.1.1 i hi).2.1 hI.2.2.2.2.1 (own := "java/lang/String") (by rw [← hc]; exact hI.1.2.2.2.1) (hI.1.2.2.2.2.1 _ kj_1972) (fun _ h => h) hd k) kk
theorem ge_valueK {i : Nat} {z : Int} (hd : decode M.2.1 pc = .ok (.getfield 9, 3)) (hc : M.1.cls = "java/lang/String") (hi : i < 6) (hz : z = (i : Int)) (kk : Gx K G M cs ss (pc + 3) ls ((3, ((6 + i : Nat) : Int)) :: st) μ) : Gx K G M cs ss pc ls ((3, z) :: st) μ := by
  subst hz
  exact Gx.stk (fun _ _ _ _ _ _ _ _ _ _ _ _ hx hb hI k => vk_getf (v := .ref (gK G (6 + i))) hx hb (hI.2.2.2.2.2.1.1.1.1 i hi).2.2.1 hI.2.2.2.2.1 (own := "java/lang/String") (by rw [← hc]; exact hI.1.2.2.2.1) (hI.1.2.2.2.2.1 _ kj_1971) (fun _ h => h) hd k) kk
theorem ge_alenK {i : Nat} {z : Int} (hd : decode M.2.1 pc = .ok (.arraylength, 1)) (hi : i < 6) (hz : z = ((6 + i : Nat) : Int)) (kk : Gx K G M cs ss (pc + 1) ls ((0, wln i) :: st) μ) : Gx K G M cs ss pc ls ((3, z) :: st) μ := by
  subst hz
  exact Gx.stk (fun _ _ _ _ _ _ _ _ _ _ _ _ hx hb hI k => va_tlen hx hb (hI.2.2.2.2.2.1.1.1.1 i hi).2.2.2 hI.2.2.2.2.1 (v := Int32.ofInt (wln i)) (by rw [← (tx_len i hi).2.1, Int32.ofInt_eq_ofNat]) hd k) kk
theorem ge_baldK {i : Nat} {z x : Int} (hd : decode M.2.1 pc = .ok (.baload, 1)) (hi : i < 6) (hz : z = ((6 + i : Nat) : Int)) (h : 0 ≤ x ∧ x < wln i) (kk : Gx K G M cs ss (pc + 1) ls ((0, wch i x) :: st) μ) : Gx K G M cs ss pc ls ((0, x) :: (3, z) :: st) μ := by
  subst hz
  obtain ⟨j, rfl⟩ : ∃ j : Nat, x = j := ⟨x.toNat, by omega⟩
  have hl := tx_len i hi
  obtain ⟨h1, h2⟩ := am_clamp (i := (j : Int)) (n := am_lens.getD i 0) (by omega) (by omega) hl.1
  have h3 : (Int32.ofInt (j : Int)).toNatClampNeg = j := by omega
  exact Gx.stk (fun _ _ _ _ _ _ _ _ _ _ _ _ hx hb hI k => va_tb hx hb (hI.2.2.2.2.2.1.1.1.1 i hi).2.2.2 hI.2.2.2.2.1 h1 (v := .int (Int32.ofInt (wch i j))) (by show Value.int ((am_byts.getD i []).getD (Int32.ofInt (j : Int)).toNatClampNeg 0) = _; rw [h3, (tx_byt i hi j (by omega)).1]) hd k) kk
theorem ge_getsC (hd : decode M.2.1 pc = .ok (.getstatic 38, 3)) (hc : M.1.cls = "java/lang/String") (kk : Gx K G M cs ss (pc + 3) ls ((0, 1) :: st) μ) : Gx K G M cs ss pc ls st μ :=
  Gx.stk (fun _ _ _ _ _ _ _ _ _ _ _ _ hx hb hI k => va_gets (v := .int 1) hx hb hI.2.2.2.2.2.1.1.2.1 hI.2.2.2.2.1 (own := "java/lang/String") (by rw [← hc]; exact hI.1.2.2.2.1) (hI.1.2.2.2.2.1 _ kj_523) (fun _ h => h) hd k) kk
theorem ge_getsF (hd : decode M.2.1 pc = .ok (.getstatic 1053, 3)) (hc : M.1.cls = "java/lang/String") (kk1 : Gx K G M cs ss (pc + 3) ls ((2, -1) :: st) μ) (kk2 : Gx K G M cs ss (pc + 3) ls ((3, 12) :: st) μ) : Gx K G M cs ss pc ls st μ := by
  intro p e s m args below meth c H locs lsA hI
  have h9 : am_c G (2, -1) = .null := by simp [am_c, am_ref]
  have k1 := kk1 p e s m args below meth c H locs lsA hI
  have k2 := kk2 p e s m args below meth c H locs lsA hI
  rw [List.map_cons, h9] at k1
  rcases hI.2.2.2.2.2.1.1.2.2.1 with hZ | hZ
  · exact va_gets hI.1.1 hI.1.2.1 hZ hI.2.2.2.2.1 (own := "java/lang/String") (by rw [← hc]; exact hI.1.2.2.2.1) (hI.1.2.2.2.2.1 _ kj_539) (fun _ h => h) hd k1
  · exact va_gets hI.1.1 hI.1.2.1 hZ hI.2.2.2.2.1 (own := "java/lang/String") (by rw [← hc]; exact hI.1.2.2.2.1) (hI.1.2.2.2.2.1 _ kj_539) (fun _ h => h) hd k2
theorem ge_i2c {a : Int} (hd : decode M.2.1 pc = .ok (.i2c, 1)) (ha : 0 ≤ a ∧ a ≤ 255) (kk : Gx K G M cs ss (pc + 1) ls ((0, a) :: st) μ) : Gx K G M cs ss pc ls ((0, a) :: st) μ :=
  Gx.stk (fun _ _ _ _ _ _ _ _ _ _ _ _ hx hb hI k => lv_i2c (v := Int32.ofInt a) hx hb hd (tx_cz ha).2 k) kk
theorem x_iconst {n : Int} (hd : decode M.2.1 pc = .ok (.iconst n, 1)) (kk : Gx K G M cs ss (pc + 1) ls ((0, n) :: st) μ) : Gx K G M cs ss pc ls st μ := ge_iconst hd kk
theorem x_bipush {n : Int} (hd : decode M.2.1 pc = .ok (.bipush n, 2)) (hn : (Int8.ofInt n).toInt32 = Int32.ofInt n) (kk : Gx K G M cs ss (pc + 2) ls ((0, n) :: st) μ) : Gx K G M cs ss pc ls st μ := ge_bipush hd hn kk
theorem x_sipush {n : Int} (hd : decode M.2.1 pc = .ok (.sipush n, 3)) (hn : (Int16.ofInt n).toInt32 = Int32.ofInt n) (kk : Gx K G M cs ss (pc + 3) ls ((0, n) :: st) μ) : Gx K G M cs ss pc ls st μ := ge_sipush hd hn kk
theorem x_ldc {i : Nat} {v : Int32} {n : Int} (hd : decode M.2.1 pc = .ok (.ldc i, 2)) (hw : Cond.constant M.1.cls i v ∈ TW) (hn : Int32.ofInt n = v) (kk : Gx K G M cs ss (pc + 2) ls ((0, n) :: st) μ) : Gx K G M cs ss pc ls st μ := ge_ldc hd hw hn kk
theorem x_ldcw {i : Nat} {v : Int32} {n : Int} (hd : decode M.2.1 pc = .ok (.ldc_w i, 3)) (hw : Cond.constant M.1.cls i v ∈ TW) (hn : Int32.ofInt n = v) (kk : Gx K G M cs ss (pc + 3) ls ((0, n) :: st) μ) : Gx K G M cs ss pc ls st μ := ge_ldcw hd hw hn kk
theorem x_ldc2 {i : Nat} {v : Int64} {n : Int} (hd : decode M.2.1 pc = .ok (.ldc2_w i, 3)) (hw : Cond.constantLong M.1.cls i v ∈ TW) (hn : Int64.ofInt n = v) (kk : Gx K G M cs ss (pc + 3) ls ((1, n) :: st) μ) : Gx K G M cs ss pc ls st μ := ge_ldc2 hd hw hn kk
theorem x_iload_n {k : Fin 4} {i : Nat} {x : Int} (hd : decode M.2.1 pc = .ok (.iload_n k, 1)) (hi : (k : Nat) = i) (hl : ls[i]? = some (0, x)) (kk : Gx K G M cs ss (pc + 1) ls ((0, x) :: st) μ) : Gx K G M cs ss pc ls st μ := ge_iload_n hd hi hl kk
theorem x_iload {i : Nat} {x : Int} (hd : decode M.2.1 pc = .ok (.iload i, 2)) (hl : ls[i]? = some (0, x)) (kk : Gx K G M cs ss (pc + 2) ls ((0, x) :: st) μ) : Gx K G M cs ss pc ls st μ := ge_iload hd hl kk
theorem x_lload_n {k : Fin 4} {i : Nat} {x : Int} (hd : decode M.2.1 pc = .ok (.lload_n k, 1)) (hi : (k : Nat) = i) (hl : ls[i]? = some (1, x)) (kk : Gx K G M cs ss (pc + 1) ls ((1, x) :: st) μ) : Gx K G M cs ss pc ls st μ := ge_lload_n hd hi hl kk
theorem x_lload {i : Nat} {x : Int} (hd : decode M.2.1 pc = .ok (.lload i, 2)) (hl : ls[i]? = some (1, x)) (kk : Gx K G M cs ss (pc + 2) ls ((1, x) :: st) μ) : Gx K G M cs ss pc ls st μ := ge_lload hd hl kk
theorem x_aload_n {k : Fin 4} {i : Nat} {x : Int} (hd : decode M.2.1 pc = .ok (.aload_n k, 1)) (hi : (k : Nat) = i) (hl : ls[i]? = some (2, x)) (h0 : 0 ≤ x) (kk : Gx K G M cs ss (pc + 1) ls ((2, x) :: st) μ) : Gx K G M cs ss pc ls st μ := ge_aload_n hd hi hl h0 kk
theorem x_aload {i : Nat} {x : Int} (hd : decode M.2.1 pc = .ok (.aload i, 2)) (hl : ls[i]? = some (2, x)) (h0 : 0 ≤ x) (kk : Gx K G M cs ss (pc + 2) ls ((2, x) :: st) μ) : Gx K G M cs ss pc ls st μ := ge_aload hd hl h0 kk
theorem x_aload_nS {k : Fin 4} {i : Nat} {x : Int} (hd : decode M.2.1 pc = .ok (.aload_n k, 1)) (hi : (k : Nat) = i) (hl : ls[i]? = some (3, x)) (kk : Gx K G M cs ss (pc + 1) ls ((3, x) :: st) μ) : Gx K G M cs ss pc ls st μ := ge_aload_nS hd hi hl kk
theorem x_istore_n {ls' : List AV} {k : Fin 4} {i : Nat} {x : Int} (hd : decode M.2.1 pc = .ok (.istore_n k, 1)) (hi : (k : Nat) = i) (hn : i < M.2.2.1) (hp : am_pre ls i = true) (hls : (ls.set i (0, x)) = ls') (kk : Gx K G M cs ss (pc + 1) ls' st μ) : Gx K G M cs ss pc ls ((0, x) :: st) μ := by subst hls; exact ge_istore_n hd hi hn hp kk
theorem x_istore {ls' : List AV} {i : Nat} {x : Int} (hd : decode M.2.1 pc = .ok (.istore i, 2)) (hn : i < M.2.2.1) (hp : am_pre ls i = true) (hls : (ls.set i (0, x)) = ls') (kk : Gx K G M cs ss (pc + 2) ls' st μ) : Gx K G M cs ss pc ls ((0, x) :: st) μ := by subst hls; exact ge_istore hd hn hp kk
theorem x_lstore_n {ls' : List AV} {k : Fin 4} {i : Nat} {x : Int} (hd : decode M.2.1 pc = .ok (.lstore_n k, 1)) (hi : (k : Nat) = i) (hn : i + 1 < M.2.2.1) (hp : am_pre ls i = true) (hls : ((ls.set i (1, x)).set (i + 1) (9, 0)) = ls') (kk : Gx K G M cs ss (pc + 1) ls' st μ) : Gx K G M cs ss pc ls ((1, x) :: st) μ := by subst hls; exact ge_lstore_n hd hi hn hp kk
theorem x_lstore {ls' : List AV} {i : Nat} {x : Int} (hd : decode M.2.1 pc = .ok (.lstore i, 2)) (hn : i + 1 < M.2.2.1) (hp : am_pre ls i = true) (hls : ((ls.set i (1, x)).set (i + 1) (9, 0)) = ls') (kk : Gx K G M cs ss (pc + 2) ls' st μ) : Gx K G M cs ss pc ls ((1, x) :: st) μ := by subst hls; exact ge_lstore hd hn hp kk
theorem x_astore_n {ls' : List AV} {k : Fin 4} {i : Nat} {x : Int} (hd : decode M.2.1 pc = .ok (.astore_n k, 1)) (hi : (k : Nat) = i) (hn : i < M.2.2.1) (hp : am_pre ls i = true) (h0 : 0 ≤ x) (hls : (ls.set i (2, x)) = ls') (kk : Gx K G M cs ss (pc + 1) ls' st μ) : Gx K G M cs ss pc ls ((2, x) :: st) μ := by subst hls; exact ge_astore_n hd hi hn hp h0 kk
theorem x_iinc {ls' : List AV} {i : Nat} {x n : Int} (hd : decode M.2.1 pc = .ok (.iinc i n, 3)) (hl : ls[i]? = some (0, x)) (hn : i < M.2.2.1) (hp : am_pre ls i = true) (hls : (ls.set i (0, x + n)) = ls') (kk : Gx K G M cs ss (pc + 3) ls' st μ) : Gx K G M cs ss pc ls st μ := by subst hls; exact ge_iinc hd hl hn hp kk
theorem x_iadd {a b : Int} (hd : decode M.2.1 pc = .ok (.iadd, 1)) (kk : Gx K G M cs ss (pc + 1) ls ((0, a + b) :: st) μ) : Gx K G M cs ss pc ls ((0, b) :: (0, a) :: st) μ := ge_iadd hd kk
theorem x_isub {a b : Int} (hd : decode M.2.1 pc = .ok (.isub, 1)) (kk : Gx K G M cs ss (pc + 1) ls ((0, a - b) :: st) μ) : Gx K G M cs ss pc ls ((0, b) :: (0, a) :: st) μ := ge_isub hd kk
theorem x_imul {a b : Int} (hd : decode M.2.1 pc = .ok (.imul, 1)) (kk : Gx K G M cs ss (pc + 1) ls ((0, a * b) :: st) μ) : Gx K G M cs ss pc ls ((0, b) :: (0, a) :: st) μ := ge_imul hd kk
theorem x_ladd {a b : Int} (hd : decode M.2.1 pc = .ok (.ladd, 1)) (kk : Gx K G M cs ss (pc + 1) ls ((1, a + b) :: st) μ) : Gx K G M cs ss pc ls ((1, b) :: (1, a) :: st) μ := ge_ladd hd kk
theorem x_ineg {a : Int} (hd : decode M.2.1 pc = .ok (.ineg, 1)) (kk : Gx K G M cs ss (pc + 1) ls ((0, -a) :: st) μ) : Gx K G M cs ss pc ls ((0, a) :: st) μ := ge_ineg hd kk
theorem x_idiv {a b : Int} (hd : decode M.2.1 pc = .ok (.idiv, 1)) (ha : R32 a) (hb0 : R32 b) (h0 : b ≠ 0) (kk : Gx K G M cs ss (pc + 1) ls ((0, a.tdiv b) :: st) μ) : Gx K G M cs ss pc ls ((0, b) :: (0, a) :: st) μ := ge_idiv hd ha hb0 h0 kk
theorem x_irem {a b : Int} (hd : decode M.2.1 pc = .ok (.irem, 1)) (ha : R32 a) (hb0 : R32 b) (h0 : b ≠ 0) (kk : Gx K G M cs ss (pc + 1) ls ((0, a.tmod b) :: st) μ) : Gx K G M cs ss pc ls ((0, b) :: (0, a) :: st) μ := ge_irem hd ha hb0 h0 kk
theorem x_iand {a b : Int} (hd : decode M.2.1 pc = .ok (.iand, 1)) (kk : Gx K G M cs ss (pc + 1) ls ((0, am_iand a b) :: st) μ) : Gx K G M cs ss pc ls ((0, b) :: (0, a) :: st) μ := ge_iand hd kk
theorem x_ior {a b : Int} (hd : decode M.2.1 pc = .ok (.ior, 1)) (kk : Gx K G M cs ss (pc + 1) ls ((0, am_ior a b) :: st) μ) : Gx K G M cs ss pc ls ((0, b) :: (0, a) :: st) μ := ge_ior hd kk
theorem x_ishl {a b : Int} (hd : decode M.2.1 pc = .ok (.ishl, 1)) (kk : Gx K G M cs ss (pc + 1) ls ((0, am_ishl a b) :: st) μ) : Gx K G M cs ss pc ls ((0, b) :: (0, a) :: st) μ := ge_ishl hd kk
theorem x_ishr {a b : Int} (hd : decode M.2.1 pc = .ok (.ishr, 1)) (kk : Gx K G M cs ss (pc + 1) ls ((0, am_ishr a b) :: st) μ) : Gx K G M cs ss pc ls ((0, b) :: (0, a) :: st) μ := ge_ishr hd kk
theorem x_land {a b : Int} (hd : decode M.2.1 pc = .ok (.land, 1)) (kk : Gx K G M cs ss (pc + 1) ls ((1, am_land a b) :: st) μ) : Gx K G M cs ss pc ls ((1, b) :: (1, a) :: st) μ := ge_land hd kk
theorem x_lshl {a b : Int} (hd : decode M.2.1 pc = .ok (.lshl, 1)) (kk : Gx K G M cs ss (pc + 1) ls ((1, am_lshl a b) :: st) μ) : Gx K G M cs ss pc ls ((0, b) :: (1, a) :: st) μ := ge_lshl hd kk
theorem x_lshr {a b : Int} (hd : decode M.2.1 pc = .ok (.lshr, 1)) (kk : Gx K G M cs ss (pc + 1) ls ((1, am_lshr a b) :: st) μ) : Gx K G M cs ss pc ls ((0, b) :: (1, a) :: st) μ := ge_lshr hd kk
theorem x_i2l {a : Int} (hd : decode M.2.1 pc = .ok (.i2l, 1)) (ha : R32 a) (kk : Gx K G M cs ss (pc + 1) ls ((1, a) :: st) μ) : Gx K G M cs ss pc ls ((0, a) :: st) μ := ge_i2l hd ha kk
theorem x_l2i {a : Int} (hd : decode M.2.1 pc = .ok (.l2i, 1)) (kk : Gx K G M cs ss (pc + 1) ls ((0, a) :: st) μ) : Gx K G M cs ss pc ls ((1, a) :: st) μ := ge_l2i hd kk
theorem x_i2b {a : Int} (hd : decode M.2.1 pc = .ok (.i2b, 1)) (kk : Gx K G M cs ss (pc + 1) ls ((0, am_i2b a) :: st) μ) : Gx K G M cs ss pc ls ((0, a) :: st) μ := ge_i2b hd kk
theorem x_lcmp {a b : Int} (hd : decode M.2.1 pc = .ok (.lcmp, 1)) (ha : R64 a) (hb0 : R64 b) (kk : Gx K G M cs ss (pc + 1) ls ((0, am_cmp a b) :: st) μ) : Gx K G M cs ss pc ls ((1, b) :: (1, a) :: st) μ := ge_lcmp hd ha hb0 kk
theorem x_dup {v : AV} (hd : decode M.2.1 pc = .ok (.dup, 1)) (hv : v.1 ≠ 1) (kk : Gx K G M cs ss (pc + 1) ls (v :: v :: st) μ) : Gx K G M cs ss pc ls (v :: st) μ := ge_dup hd hv kk
theorem x_pop {v : AV} (hd : decode M.2.1 pc = .ok (.pop, 1)) (hv : v.1 ≠ 1) (kk : Gx K G M cs ss (pc + 1) ls (st) μ) : Gx K G M cs ss pc ls (v :: st) μ := ge_pop hd hv kk
theorem x_goto {off : Int} {tgt : Nat} (hd : decode M.2.1 pc = .ok (.goto off, 3)) (ht : (pc : Int) + off = (tgt : Int)) (kk : Gx K G M cs ss tgt ls st μ) : Gx K G M cs ss pc ls st μ := ge_goto hd ht kk
theorem x_icmp_eq {a b off : Int} {tgt : Nat} (hd : decode M.2.1 pc = .ok (.if_icmp .eq off, 3)) (ht : (pc : Int) + off = (tgt : Int)) (ha : R32 a) (hb0 : R32 b) (kt : a = b → Gx K G M cs ss tgt ls st μ) (kf : ¬ a = b → Gx K G M cs ss (pc + 3) ls st μ) : Gx K G M cs ss pc ls ((0, b) :: (0, a) :: st) μ := ge_icmp_eq hd ht ha hb0 kt kf
theorem x_if_eq {a off : Int} {tgt : Nat} (hd : decode M.2.1 pc = .ok (.ifCond .eq off, 3)) (ht : (pc : Int) + off = (tgt : Int)) (ha : R32 a) (kt : a = 0 → Gx K G M cs ss tgt ls st μ) (kf : ¬ a = 0 → Gx K G M cs ss (pc + 3) ls st μ) : Gx K G M cs ss pc ls ((0, a) :: st) μ := ge_if_eq hd ht ha kt kf
theorem x_icmp_ne {a b off : Int} {tgt : Nat} (hd : decode M.2.1 pc = .ok (.if_icmp .ne off, 3)) (ht : (pc : Int) + off = (tgt : Int)) (ha : R32 a) (hb0 : R32 b) (kt : ¬ a = b → Gx K G M cs ss tgt ls st μ) (kf : a = b → Gx K G M cs ss (pc + 3) ls st μ) : Gx K G M cs ss pc ls ((0, b) :: (0, a) :: st) μ := ge_icmp_ne hd ht ha hb0 kt kf
theorem x_if_ne {a off : Int} {tgt : Nat} (hd : decode M.2.1 pc = .ok (.ifCond .ne off, 3)) (ht : (pc : Int) + off = (tgt : Int)) (ha : R32 a) (kt : ¬ a = 0 → Gx K G M cs ss tgt ls st μ) (kf : a = 0 → Gx K G M cs ss (pc + 3) ls st μ) : Gx K G M cs ss pc ls ((0, a) :: st) μ := ge_if_ne hd ht ha kt kf
theorem x_icmp_lt {a b off : Int} {tgt : Nat} (hd : decode M.2.1 pc = .ok (.if_icmp .lt off, 3)) (ht : (pc : Int) + off = (tgt : Int)) (ha : R32 a) (hb0 : R32 b) (kt : a < b → Gx K G M cs ss tgt ls st μ) (kf : b ≤ a → Gx K G M cs ss (pc + 3) ls st μ) : Gx K G M cs ss pc ls ((0, b) :: (0, a) :: st) μ := ge_icmp_lt hd ht ha hb0 kt kf
theorem x_if_lt {a off : Int} {tgt : Nat} (hd : decode M.2.1 pc = .ok (.ifCond .lt off, 3)) (ht : (pc : Int) + off = (tgt : Int)) (ha : R32 a) (kt : a < 0 → Gx K G M cs ss tgt ls st μ) (kf : 0 ≤ a → Gx K G M cs ss (pc + 3) ls st μ) : Gx K G M cs ss pc ls ((0, a) :: st) μ := ge_if_lt hd ht ha kt kf
theorem x_icmp_ge {a b off : Int} {tgt : Nat} (hd : decode M.2.1 pc = .ok (.if_icmp .ge off, 3)) (ht : (pc : Int) + off = (tgt : Int)) (ha : R32 a) (hb0 : R32 b) (kt : b ≤ a → Gx K G M cs ss tgt ls st μ) (kf : a < b → Gx K G M cs ss (pc + 3) ls st μ) : Gx K G M cs ss pc ls ((0, b) :: (0, a) :: st) μ := ge_icmp_ge hd ht ha hb0 kt kf
theorem x_if_ge {a off : Int} {tgt : Nat} (hd : decode M.2.1 pc = .ok (.ifCond .ge off, 3)) (ht : (pc : Int) + off = (tgt : Int)) (ha : R32 a) (kt : 0 ≤ a → Gx K G M cs ss tgt ls st μ) (kf : a < 0 → Gx K G M cs ss (pc + 3) ls st μ) : Gx K G M cs ss pc ls ((0, a) :: st) μ := ge_if_ge hd ht ha kt kf
theorem x_icmp_gt {a b off : Int} {tgt : Nat} (hd : decode M.2.1 pc = .ok (.if_icmp .gt off, 3)) (ht : (pc : Int) + off = (tgt : Int)) (ha : R32 a) (hb0 : R32 b) (kt : b < a → Gx K G M cs ss tgt ls st μ) (kf : a ≤ b → Gx K G M cs ss (pc + 3) ls st μ) : Gx K G M cs ss pc ls ((0, b) :: (0, a) :: st) μ := ge_icmp_gt hd ht ha hb0 kt kf
theorem x_if_gt {a off : Int} {tgt : Nat} (hd : decode M.2.1 pc = .ok (.ifCond .gt off, 3)) (ht : (pc : Int) + off = (tgt : Int)) (ha : R32 a) (kt : 0 < a → Gx K G M cs ss tgt ls st μ) (kf : a ≤ 0 → Gx K G M cs ss (pc + 3) ls st μ) : Gx K G M cs ss pc ls ((0, a) :: st) μ := ge_if_gt hd ht ha kt kf
theorem x_icmp_le {a b off : Int} {tgt : Nat} (hd : decode M.2.1 pc = .ok (.if_icmp .le off, 3)) (ht : (pc : Int) + off = (tgt : Int)) (ha : R32 a) (hb0 : R32 b) (kt : a ≤ b → Gx K G M cs ss tgt ls st μ) (kf : b < a → Gx K G M cs ss (pc + 3) ls st μ) : Gx K G M cs ss pc ls ((0, b) :: (0, a) :: st) μ := ge_icmp_le hd ht ha hb0 kt kf
theorem x_if_le {a off : Int} {tgt : Nat} (hd : decode M.2.1 pc = .ok (.ifCond .le off, 3)) (ht : (pc : Int) + off = (tgt : Int)) (ha : R32 a) (kt : a ≤ 0 → Gx K G M cs ss tgt ls st μ) (kf : 0 < a → Gx K G M cs ss (pc + 3) ls st μ) : Gx K G M cs ss pc ls ((0, a) :: st) μ := ge_if_le hd ht ha kt kf
theorem x_tableOut {a dflt lo hi : Int} {offs : Array Int} {len tgt : Nat} (hd : decode M.2.1 pc = .ok (.tableswitch dflt lo hi offs, len)) (ha : R32 a) (h : a < lo ∨ hi < a) (ht : (pc : Int) + dflt = (tgt : Int)) (kk : Gx K G M cs ss tgt ls st μ) : Gx K G M cs ss pc ls ((0, a) :: st) μ := ge_tableOut hd ha h ht kk
theorem x_tableIn {a dflt lo hi off : Int} {offs : Array Int} {len tgt : Nat} (hd : decode M.2.1 pc = .ok (.tableswitch dflt lo hi offs, len)) (ha : R32 a) (h1 : ¬ a < lo) (h2 : ¬ hi < a) (ho : offs[(a - lo).toNat]? = some off) (ht : (pc : Int) + off = (tgt : Int)) (kk : Gx K G M cs ss tgt ls st μ) : Gx K G M cs ss pc ls ((0, a) :: st) μ := ge_tableIn hd ha h1 h2 ho ht kk
theorem x_lookup {a dflt off : Int} {ps : Array (Int × Int)} {len tgt : Nat} (hd : decode M.2.1 pc = .ok (.lookupswitch dflt ps, len)) (hp : (ps.toList.zip (ps.toList.drop 1)).all (fun (a, next) => a.1 < next.1) = true) (ha : R32 a) (ho : Op.lookupswitch.offset ps.toList dflt a = off) (ht : (pc : Int) + off = (tgt : Int)) (kk : Gx K G M cs ss tgt ls st μ) : Gx K G M cs ss pc ls ((0, a) :: st) μ := ge_lookup hd hp ha ho ht kk
theorem x_getI {ci k o : Nat} {z f : Int} (hf : am_Fg M pc ci k) (ho : z = (o : Int)) (hs : (gS G)[o]? = some (ci, am_N ci)) (ht : am_ct ci k < 2) (hk : f = (k : Int)) (kk : Gx K G M cs ss (pc + 3) ls ((0, μ z f) :: st) μ) : Gx K G M cs ss pc ls ((2, z) :: st) μ := ge_getI hf ho hs ht hk kk
theorem x_getR {ci k o : Nat} {z x : Int} (hf : am_Fg M pc ci k) (ho : z = (o : Int)) (hs : (gS G)[o]? = some (ci, am_N ci)) (ht : am_ct ci k = 2) (hx : gR G o k = x) (kk : Gx K G M cs ss (pc + 3) ls ((2, x) :: st) μ) : Gx K G M cs ss pc ls ((2, z) :: st) μ := ge_getR hf ho hs ht hx kk
theorem x_getD {ci k o : Nat} {z f : Int} (hf : am_Fg M pc ci k) (ho : z = (o : Int)) (hs : (gS G)[o]? = some (ci, am_N ci)) (ht : am_ct ci k = 3) (hk : f = (k : Int)) (kk : Gx K G M cs ss (pc + 3) ls ((2, μ z f) :: st) μ) : Gx K G M cs ss pc ls ((2, z) :: st) μ := ge_getD hf ho hs ht hk kk
theorem x_putI {ci k o : Nat} {z f v : Int} (hf : am_Fp M pc ci k) (ho : z = (o : Int)) (hs : (gS G)[o]? = some (ci, am_N ci)) (ht : am_ct ci k = 0) (hty : am_cty ci k = .int) (hk : f = (k : Int)) (kk : Gx K G M cs ss (pc + 3) ls st (am_up μ z f v)) : Gx K G M cs ss pc ls ((0, v) :: (2, z) :: st) μ := ge_putI hf ho hs ht hty hk kk
theorem x_putZ {ci k o : Nat} {z f v : Int} (hf : am_Fp M pc ci k) (ho : z = (o : Int)) (hs : (gS G)[o]? = some (ci, am_N ci)) (ht : am_ct ci k = 1) (hty : am_cty ci k = .boolean) (hk : f = (k : Int)) (hv : v = 0 ∨ v = 1) (kk : Gx K G M cs ss (pc + 3) ls st (am_up μ z f v)) : Gx K G M cs ss pc ls ((0, v) :: (2, z) :: st) μ := ge_putZ hf ho hs ht hty hk hv kk
theorem x_putD {ci k o : Nat} {z f v : Int} {C : String} (hf : am_Fp M pc ci k) (ho : z = (o : Int)) (hs : (gS G)[o]? = some (ci, am_N ci)) (ht : am_ct ci k = 3) (hty : am_cty ci k = .object C) (hk : f = (k : Int)) (hv : 0 ≤ v) (kk : Gx K G M cs ss (pc + 3) ls st (am_up μ z f v)) : Gx K G M cs ss pc ls ((2, v) :: (2, z) :: st) μ := ge_putD hf ho hs ht hty hk hv kk
theorem x_iald {o n : Nat} {z i : Int} (hd : decode M.2.1 pc = .ok (.iaload, 1)) (ho : z = (o : Int)) (hs : (gS G)[o]? = some (20, n)) (hn : n < 2147483648) (h0 : 0 ≤ i) (h1 : i < n) (kk : Gx K G M cs ss (pc + 1) ls ((0, μ z i) :: st) μ) : Gx K G M cs ss pc ls ((0, i) :: (2, z) :: st) μ := ge_iald hd ho hs hn h0 h1 kk
theorem x_zald {o n : Nat} {z i : Int} (hd : decode M.2.1 pc = .ok (.baload, 1)) (ho : z = (o : Int)) (hs : (gS G)[o]? = some (21, n)) (hn : n < 2147483648) (h0 : 0 ≤ i) (h1 : i < n) (kk : Gx K G M cs ss (pc + 1) ls ((0, μ z i) :: st) μ) : Gx K G M cs ss pc ls ((0, i) :: (2, z) :: st) μ := ge_zald hd ho hs hn h0 h1 kk
theorem x_bald {o n : Nat} {z i : Int} (hd : decode M.2.1 pc = .ok (.baload, 1)) (ho : z = (o : Int)) (hs : (gS G)[o]? = some (22, n)) (hn : n < 2147483648) (h0 : 0 ≤ i) (h1 : i < n) (kk : Gx K G M cs ss (pc + 1) ls ((0, μ z i) :: st) μ) : Gx K G M cs ss pc ls ((0, i) :: (2, z) :: st) μ := ge_bald hd ho hs hn h0 h1 kk
theorem x_lald {o n : Nat} {z i : Int} (hd : decode M.2.1 pc = .ok (.laload, 1)) (ho : z = (o : Int)) (hs : (gS G)[o]? = some (23, n)) (hn : n < 2147483648) (h0 : 0 ≤ i) (h1 : i < n) (kk : Gx K G M cs ss (pc + 1) ls ((1, μ z i) :: st) μ) : Gx K G M cs ss pc ls ((0, i) :: (2, z) :: st) μ := ge_lald hd ho hs hn h0 h1 kk
theorem x_iast {o n : Nat} {z i v : Int} (hd : decode M.2.1 pc = .ok (.iastore, 1)) (ho : z = (o : Int)) (hs : (gS G)[o]? = some (20, n)) (hn : n < 2147483648) (h0 : 0 ≤ i) (h1 : i < n) (kk : Gx K G M cs ss (pc + 1) ls st (am_up μ z i v)) : Gx K G M cs ss pc ls ((0, v) :: (0, i) :: (2, z) :: st) μ := ge_iast hd ho hs hn h0 h1 kk
theorem x_last {o n : Nat} {z i v : Int} (hd : decode M.2.1 pc = .ok (.lastore, 1)) (ho : z = (o : Int)) (hs : (gS G)[o]? = some (23, n)) (hn : n < 2147483648) (h0 : 0 ≤ i) (h1 : i < n) (kk : Gx K G M cs ss (pc + 1) ls st (am_up μ z i v)) : Gx K G M cs ss pc ls ((1, v) :: (0, i) :: (2, z) :: st) μ := ge_last hd ho hs hn h0 h1 kk
theorem x_zast {o n : Nat} {z i v : Int} (hd : decode M.2.1 pc = .ok (.bastore, 1)) (ho : z = (o : Int)) (hs : (gS G)[o]? = some (21, n)) (hn : n < 2147483648) (h0 : 0 ≤ i) (h1 : i < n) (hv : v = 0 ∨ v = 1) (kk : Gx K G M cs ss (pc + 1) ls st (am_up μ z i v)) : Gx K G M cs ss pc ls ((0, v) :: (0, i) :: (2, z) :: st) μ := ge_zast hd ho hs hn h0 h1 hv kk
theorem x_bast {o n : Nat} {z i v : Int} (hd : decode M.2.1 pc = .ok (.bastore, 1)) (ho : z = (o : Int)) (hs : (gS G)[o]? = some (22, n)) (hn : n < 2147483648) (h0 : 0 ≤ i) (h1 : i < n) (kk : Gx K G M cs ss (pc + 1) ls st (am_up μ z i (am_i2b v))) : Gx K G M cs ss pc ls ((0, v) :: (0, i) :: (2, z) :: st) μ := ge_bast hd ho hs hn h0 h1 kk
theorem x_alen {o n t : Nat} {z f : Int} (hd : decode M.2.1 pc = .ok (.arraylength, 1)) (ho : z = (o : Int)) (hs : (gS G)[o]? = some (t + 20, n)) (ht : t < 3) (hf : f = (n : Int)) (kk : Gx K G M cs ss (pc + 1) ls ((0, f) :: st) μ) : Gx K G M cs ss pc ls ((2, z) :: st) μ := ge_alen hd ho hs ht hf kk
theorem x_alenL {o n : Nat} {z f : Int} (hd : decode M.2.1 pc = .ok (.arraylength, 1)) (ho : z = (o : Int)) (hs : (gS G)[o]? = some (23, n)) (hf : f = (n : Int)) (kk : Gx K G M cs ss (pc + 1) ls ((0, f) :: st) μ) : Gx K G M cs ss pc ls ((2, z) :: st) μ := ge_alenL hd ho hs hf kk
theorem x_getIx {ci k o : Nat} {z f x : Int} (hf : am_Fg M pc ci k) (ho : z = (o : Int)) (hs : (gS G)[o]? = some (ci, am_N ci)) (ht : am_ct ci k < 2) (hk : f = (k : Int)) (hx : μ z f = x) (kk : Gx K G M cs ss (pc + 3) ls ((0, x) :: st) μ) : Gx K G M cs ss pc ls ((2, z) :: st) μ := ge_getIx hf ho hs ht hk hx kk
theorem x_getDx {ci k o : Nat} {z f x : Int} (hf : am_Fg M pc ci k) (ho : z = (o : Int)) (hs : (gS G)[o]? = some (ci, am_N ci)) (ht : am_ct ci k = 3) (hk : f = (k : Int)) (hx : μ z f = x) (kk : Gx K G M cs ss (pc + 3) ls ((2, x) :: st) μ) : Gx K G M cs ss pc ls ((2, z) :: st) μ := ge_getDx hf ho hs ht hk hx kk
theorem x_ialdx {o n : Nat} {z i x : Int} (hd : decode M.2.1 pc = .ok (.iaload, 1)) (ho : z = (o : Int)) (hs : (gS G)[o]? = some (20, n)) (hn : n < 2147483648) (h0 : 0 ≤ i ∧ i < n) (hx : μ z i = x) (kk : Gx K G M cs ss (pc + 1) ls ((0, x) :: st) μ) : Gx K G M cs ss pc ls ((0, i) :: (2, z) :: st) μ := ge_ialdx hd ho hs hn h0 hx kk
theorem x_zaldx {o n : Nat} {z i x : Int} (hd : decode M.2.1 pc = .ok (.baload, 1)) (ho : z = (o : Int)) (hs : (gS G)[o]? = some (21, n)) (hn : n < 2147483648) (h0 : 0 ≤ i ∧ i < n) (hx : μ z i = x) (kk : Gx K G M cs ss (pc + 1) ls ((0, x) :: st) μ) : Gx K G M cs ss pc ls ((0, i) :: (2, z) :: st) μ := ge_zaldx hd ho hs hn h0 hx kk
theorem x_baldx {o n : Nat} {z i x : Int} (hd : decode M.2.1 pc = .ok (.baload, 1)) (ho : z = (o : Int)) (hs : (gS G)[o]? = some (22, n)) (hn : n < 2147483648) (h0 : 0 ≤ i ∧ i < n) (hx : μ z i = x) (kk : Gx K G M cs ss (pc + 1) ls ((0, x) :: st) μ) : Gx K G M cs ss pc ls ((0, i) :: (2, z) :: st) μ := ge_baldx hd ho hs hn h0 hx kk
theorem x_laldx {o n : Nat} {z i x : Int} (hd : decode M.2.1 pc = .ok (.laload, 1)) (ho : z = (o : Int)) (hs : (gS G)[o]? = some (23, n)) (hn : n < 2147483648) (h0 : 0 ≤ i ∧ i < n) (hx : μ z i = x) (kk : Gx K G M cs ss (pc + 1) ls ((1, x) :: st) μ) : Gx K G M cs ss pc ls ((0, i) :: (2, z) :: st) μ := ge_laldx hd ho hs hn h0 hx kk
theorem x_idivP {a b : Int} (hd : decode M.2.1 pc = .ok (.idiv, 1)) (h : (0 ≤ a ∧ a ≤ 2147483647) ∧ (0 < b ∧ b ≤ 2147483647)) (kk : Gx K G M cs ss (pc + 1) ls ((0, a / b) :: st) μ) : Gx K G M cs ss pc ls ((0, b) :: (0, a) :: st) μ := ge_idivP hd h kk
theorem x_iremP {a b : Int} (hd : decode M.2.1 pc = .ok (.irem, 1)) (h : (0 ≤ a ∧ a ≤ 2147483647) ∧ (0 < b ∧ b ≤ 2147483647)) (kk : Gx K G M cs ss (pc + 1) ls ((0, a % b) :: st) μ) : Gx K G M cs ss pc ls ((0, b) :: (0, a) :: st) μ := ge_iremP hd h kk
theorem x_ixor {a b : Int} (hd : decode M.2.1 pc = .ok (.ixor, 1)) (kk : Gx K G M cs ss (pc + 1) ls ((0, am_ixor a b) :: st) μ) : Gx K G M cs ss pc ls ((0, b) :: (0, a) :: st) μ := ge_ixor hd kk
theorem x_slen (hd : decode M.2.1 pc = .ok (.arraylength, 1)) (kk : Gx K G M cs ss (pc + 1) ls ((0, (gK G 14 : Int)) :: st) μ) : Gx K G M cs ss pc ls ((3, 13) :: st) μ := ge_slen hd kk
theorem x_sld {i : Int} (hd : decode M.2.1 pc = .ok (.iaload, 1)) (hi : 0 ≤ i ∧ i < (gK G 14 : Int)) (kk : Gx K G M cs ss (pc + 1) ls ((0, sx G i) :: st) μ) : Gx K G M cs ss pc ls ((0, i) :: (3, 13) :: st) μ := ge_sld hd hi kk
theorem x_ldcS {i : Nat} {q : Nat × String} {z : Int} (hd : decode M.2.1 pc = .ok (.ldc q.1, 2)) (hc : M.1.cls = "BeamSetter$Reader") (hq : am_txs[i]? = some q) (hz : z = (i : Int)) (kk : Gx K G M cs ss (pc + 2) ls ((3, z) :: st) μ) : Gx K G M cs ss pc ls st μ := ge_ldcS hd hc hq hz kk
theorem x_ldcL {i : Nat} {q : Nat × String} {z : Int} (hd : decode M.2.1 pc = .ok (.ldc q.1, 2)) (hc : M.1.cls = "BeamSetterLaw") (hq : lw_txs[i]? = some q) (hz : z = ((20 + i : Nat) : Int)) (kk : Gx K G M cs ss (pc + 2) ls ((3, z) :: st) μ) : Gx K G M cs ss pc ls st μ := ge_ldcL hd hc hq hz kk
theorem x_coderK {i : Nat} {z : Int} (hd : decode M.2.1 pc = .ok (.getfield 15, 3)) (hc : M.1.cls = "java/lang/String") (hi : i < 6) (hz : z = (i : Int)) (kk : Gx K G M cs ss (pc + 3) ls ((0, 0) :: st) μ) : Gx K G M cs ss pc ls ((3, z) :: st) μ := ge_coderK hd hc hi hz kk
theorem x_valueK {i : Nat} {z : Int} (hd : decode M.2.1 pc = .ok (.getfield 9, 3)) (hc : M.1.cls = "java/lang/String") (hi : i < 6) (hz : z = (i : Int)) (kk : Gx K G M cs ss (pc + 3) ls ((3, ((6 + i : Nat) : Int)) :: st) μ) : Gx K G M cs ss pc ls ((3, z) :: st) μ := ge_valueK hd hc hi hz kk
theorem x_alenK {i : Nat} {z : Int} (hd : decode M.2.1 pc = .ok (.arraylength, 1)) (hi : i < 6) (hz : z = ((6 + i : Nat) : Int)) (kk : Gx K G M cs ss (pc + 1) ls ((0, wln i) :: st) μ) : Gx K G M cs ss pc ls ((3, z) :: st) μ := ge_alenK hd hi hz kk
theorem x_baldK {i : Nat} {z x : Int} (hd : decode M.2.1 pc = .ok (.baload, 1)) (hi : i < 6) (hz : z = ((6 + i : Nat) : Int)) (h : 0 ≤ x ∧ x < wln i) (kk : Gx K G M cs ss (pc + 1) ls ((0, wch i x) :: st) μ) : Gx K G M cs ss pc ls ((0, x) :: (3, z) :: st) μ := ge_baldK hd hi hz h kk
theorem x_getsC (hd : decode M.2.1 pc = .ok (.getstatic 38, 3)) (hc : M.1.cls = "java/lang/String") (kk : Gx K G M cs ss (pc + 3) ls ((0, 1) :: st) μ) : Gx K G M cs ss pc ls st μ := ge_getsC hd hc kk
theorem x_getsF (hd : decode M.2.1 pc = .ok (.getstatic 1053, 3)) (hc : M.1.cls = "java/lang/String") (kk1 : Gx K G M cs ss (pc + 3) ls ((2, -1) :: st) μ) (kk2 : Gx K G M cs ss (pc + 3) ls ((3, 12) :: st) μ) : Gx K G M cs ss pc ls st μ := ge_getsF hd hc kk1 kk2
theorem x_i2c {a : Int} (hd : decode M.2.1 pc = .ok (.i2c, 1)) (ha : 0 ≤ a ∧ a ≤ 255) (kk : Gx K G M cs ss (pc + 1) ls ((0, a) :: st) μ) : Gx K G M cs ss pc ls ((0, a) :: st) μ := ge_i2c hd ha kk
-- structure
theorem Gx.top {t : Nat} {a : Int} (h : ∀ v, v = a → Gx K G M cs ss pc ls ((t, v) :: st) μ) : Gx K G M cs ss pc ls ((t, a) :: st) μ := h a rfl
theorem Gx.topE {t : Nat} {a b : Int} (e : a = b) (h : Gx K G M cs ss pc ls ((t, b) :: st) μ) : Gx K G M cs ss pc ls ((t, a) :: st) μ := by subst e; exact h
theorem Gx.mu (h : ∀ μ1, μ1 = μ → Gx K G M cs ss pc ls st μ1) : Gx K G M cs ss pc ls st μ := h μ rfl
theorem Gx.cg {ls' st' : List AV} {μ' : Mu} (h : Gx K G M cs ss pc ls' st' μ') (h1 : μ = μ') (h2 : ls = ls') (h3 : st = st') : Gx K G M cs ss pc ls st μ := by subst h1; subst h2; subst h3; exact h
theorem Gx.loc {ls' : List AV} (h : ∀ q ∈ am_l G 0 ls', q ∈ am_l G 0 ls) (kk : Gx K G M cs ss pc ls' st μ) : Gx K G M cs ss pc ls st μ :=
  fun p e s m args below meth c H locs lsA hI => kk p e s m args below meth c H locs lsA ⟨hI.1, hI.2.1, hI.2.2.1, hI.2.2.2.1, hI.2.2.2.2.1, hI.2.2.2.2.2.1, lv_mono hI.2.2.2.2.2.2 h⟩
theorem Gx.fg (i : Nat) (h : Gx K G M cs ss pc (ls.set i (9, 0)) st μ) : Gx K G M cs ss pc ls st μ := by
  refine Gx.loc (fun q hq => ?_) h
  obtain ⟨j, v, h1, h3, rfl⟩ := am_l_of _ _ hq
  have hj : i ≠ j := by
    rintro rfl
    have hl : i < ls.length := by
      have := (List.getElem?_eq_some_iff.mp h1).1
      simpa using this
    rw [List.getElem?_set_self hl] at h1
    cases h1
    simp at h3
  rw [List.getElem?_set_ne hj] at h1
  simpa using am_l_mem h3 ls 0 j h1
theorem Gx.fgl {ls' : List AV} (i : Nat) (e : ls.set i (9, 0) = ls') (h : Gx K G M cs ss pc ls' st μ) : Gx K G M cs ss pc ls st μ := by subst e; exact Gx.fg i h
theorem Gx.lcg {ls' : List AV} {t : Nat} {a b : Int} (i : Nat) (e : a = b) (hl : ls[i]? = some (t, a)) (h : ls.set i (t, b) = ls') (kk : Gx K G M cs ss pc ls' st μ) : Gx K G M cs ss pc ls st μ := by
  subst e; subst h
  have h2 : ls.set i (t, a) = ls := by
    apply List.ext_getElem?
    intro j
    by_cases hj : i = j
    · subst hj; rw [List.getElem?_set_self (List.getElem?_eq_some_iff.mp hl).1, hl]
    · rw [List.getElem?_set_ne hj]
  rw [h2] at kk
  exact kk
theorem Gx.widen {cs2 ss2 : Nat} (h1 : cs ≤ cs2) (h2 : ss ≤ ss2) (kk : Gx K G M cs2 ss2 pc ls st μ) : Gx K G M cs ss pc ls st μ :=
  fun p e s m args below meth c H locs lsA hI => W.widen h1 h2 (kk p e s m args below meth c H locs lsA hI)
-- longs, null, two at once
theorem x_lconst {k : Fin 2} {v : Int} (hd : decode M.2.1 pc = .ok (.lconst k, 1)) (hv : Int64.ofNat (k : Nat) = Int64.ofInt v) (kk : Gx K G M cs ss (pc + 1) ls ((1, v) :: st) μ) : Gx K G M cs ss pc ls st μ :=
  Gx.stk (fun _ _ _ _ _ _ _ _ _ _ _ _ hx hb hI k => lv_lconst hx hb hd hv k) kk
theorem x_lsub {a b : Int} (hd : decode M.2.1 pc = .ok (.lsub, 1)) (kk : Gx K G M cs ss (pc + 1) ls ((1, a - b) :: st) μ) : Gx K G M cs ss pc ls ((1, b) :: (1, a) :: st) μ :=
  Gx.stk (fun _ _ _ _ _ _ _ _ _ _ _ _ hx hb hI k => lv_lsub hx hb hd (by rw [← Int64.ofInt_sub]; exact k)) kk
theorem x_lmul {a b : Int} (hd : decode M.2.1 pc = .ok (.lmul, 1)) (kk : Gx K G M cs ss (pc + 1) ls ((1, a * b) :: st) μ) : Gx K G M cs ss pc ls ((1, b) :: (1, a) :: st) μ :=
  Gx.stk (fun _ _ _ _ _ _ _ _ _ _ _ _ hx hb hI k => lv_lmul hx hb hd (by rw [← Int64.ofInt_mul]; exact k)) kk
theorem x_lneg {a : Int} (hd : decode M.2.1 pc = .ok (.lneg, 1)) (kk : Gx K G M cs ss (pc + 1) ls ((1, -a) :: st) μ) : Gx K G M cs ss pc ls ((1, a) :: st) μ :=
  Gx.stk (fun _ _ _ _ _ _ _ _ _ _ _ _ hx hb hI k => lv_lneg hx hb hd (by have h9 : Int64.ofInt (-a) = -Int64.ofInt a := Int64.ofInt_neg a; rw [← h9]; exact k)) kk
theorem x_ldivP {a b : Int} (hd : decode M.2.1 pc = .ok (.ldiv, 1)) (h : (0 ≤ a ∧ a ≤ 9223372036854775807) ∧ (0 < b ∧ b ≤ 9223372036854775807)) (kk : Gx K G M cs ss (pc + 1) ls ((1, a / b) :: st) μ) : Gx K G M cs ss pc ls ((1, b) :: (1, a) :: st) μ :=
  Gx.stk (fun _ _ _ _ _ _ _ _ _ _ _ _ hx hb hI k => lv_ldiv hx hb hd (by rw [← Int64.toInt_inj, R64.eq ⟨by omega, by omega⟩]; show ¬ b = 0; omega) (by
    have h9 : Int64.ofInt (a / b) = Int64.ofInt a / Int64.ofInt b := by
      rw [← Int.tdiv_eq_ediv_of_nonneg h.1.1]
      exact Int64.ofInt_tdiv (Int.le_trans (by decide) h.1.1) (Int.le_trans h.1.2 (by decide)) (Int.le_trans (by decide) (Int.le_of_lt h.2.1)) (Int.le_trans h.2.2 (by decide))
    rw [← h9]; exact k)) kk
theorem x_null (hd : decode M.2.1 pc = .ok (.aconst_null, 1)) (kk : Gx K G M cs ss (pc + 1) ls ((2, -1) :: st) μ) : Gx K G M cs ss pc ls st μ :=
  Gx.stk (fun _ _ _ _ _ _ _ _ _ _ _ _ hx hb hI k => lv_null hx hb hd k) kk
theorem x_aloadN {i : Nat} (hd : decode M.2.1 pc = .ok (.aload i, 2)) (hl : ls[i]? = some (2, -1)) (kk : Gx K G M cs ss (pc + 2) ls ((2, -1) :: st) μ) : Gx K G M cs ss pc ls st μ :=
  Gx.stk (fun _ _ _ _ _ _ _ _ _ _ _ _ hx hb hI k => lv_aloadN hx hb hd (am_loc hI.2.2.2.2.2.2 hl (Nat.le_of_ble_eq_true rfl)) k) kk
theorem x_astore {ls' : List AV} {i : Nat} {x : Int} (hd : decode M.2.1 pc = .ok (.astore i, 2)) (hn : i < M.2.2.1) (hp : am_pre ls i = true) (h0 : 0 ≤ x) (hls : ls.set i (2, x) = ls') (kk : Gx K G M cs ss (pc + 2) ls' st μ) : Gx K G M cs ss pc ls ((2, x) :: st) μ := by
  subst hls
  exact Gx.sto (fun _ _ _ _ _ _ _ _ _ _ _ _ hx hb hl k => by
    rw [List.map_cons, am_ref_pos h0]
    exact lv_astore hx hb hd hl hn rfl (fun ls' h' => k ls' (lv_mono h' (by rw [← am_ref_pos h0]; exact am_l_set1 (v := (2, x)) hp)))) kk
theorem x_astoreN {ls' : List AV} {i : Nat} (hd : decode M.2.1 pc = .ok (.astore i, 2)) (hn : i < M.2.2.1) (hp : am_pre ls i = true) (hls : ls.set i (2, -1) = ls') (kk : Gx K G M cs ss (pc + 2) ls' st μ) : Gx K G M cs ss pc ls ((2, -1) :: st) μ := by
  subst hls
  exact Gx.sto (fun _ _ _ _ _ _ _ _ _ _ _ _ hx hb h k => lv_astoreN hx hb hd h hn rfl (fun ls' h' => k ls' (lv_mono h' (am_l_set1 (v := (2, -1)) hp)))) kk
theorem x_ifnull_r {z off : Int} (hd : decode M.2.1 pc = .ok (.ifnull off, 3)) (h0 : 0 ≤ z) (kk : Gx K G M cs ss (pc + 3) ls st μ) : Gx K G M cs ss pc ls ((2, z) :: st) μ :=
  Gx.stk (fun _ _ _ _ _ _ _ _ _ _ _ _ hx hb hI k => by rw [List.map_cons, am_ref_pos h0]; exact lv_ifnull hx hb hd k) kk
theorem x_ifnull_n {off : Int} {tgt : Nat} (hd : decode M.2.1 pc = .ok (.ifnull off, 3)) (ht : (pc : Int) + off = (tgt : Int)) (kk : Gx K G M cs ss tgt ls st μ) : Gx K G M cs ss pc ls ((2, -1) :: st) μ :=
  Gx.stk (fun _ _ _ _ _ _ _ _ _ _ _ _ hx hb hI k => lv_ifnullN hx hb hd ht k) kk
theorem x_ifnonnull_r {z off : Int} {tgt : Nat} (hd : decode M.2.1 pc = .ok (.ifnonnull off, 3)) (ht : (pc : Int) + off = (tgt : Int)) (h0 : 0 ≤ z) (kk : Gx K G M cs ss tgt ls st μ) : Gx K G M cs ss pc ls ((2, z) :: st) μ :=
  Gx.stk (fun _ _ _ _ _ _ _ _ _ _ _ _ hx hb hI k => by rw [List.map_cons, am_ref_pos h0]; exact lv_ifnonnull hx hb hd ht k) kk
theorem x_ifnonnull_n {off : Int} (hd : decode M.2.1 pc = .ok (.ifnonnull off, 3)) (kk : Gx K G M cs ss (pc + 3) ls st μ) : Gx K G M cs ss pc ls ((2, -1) :: st) μ :=
  Gx.stk (fun _ _ _ _ _ _ _ _ _ _ _ _ hx hb hI k => lv_ifnonnullN hx hb hd k) kk
theorem x_dup2 {v w : AV} (hd : decode M.2.1 pc = .ok (.dup2, 1)) (hv : v.1 ≠ 1) (hw : w.1 ≠ 1) (kk : Gx K G M cs ss (pc + 1) ls (v :: w :: v :: w :: st) μ) : Gx K G M cs ss pc ls (v :: w :: st) μ :=
  Gx.stk (fun _ _ _ _ _ _ _ _ _ _ _ _ hx hb hI k => lv_dup2_11 hx hb hd (by rw [am_cat, if_neg hv]) (by rw [am_cat, if_neg hw]) k) kk
theorem x_lshrK {a b q : Int} (hd : decode M.2.1 pc = .ok (.lshr, 1)) (ha : R64 a) (k : Nat) (hs : (((Int32.ofInt b).toInt64 &&& 63).toBitVec.smod 64).toNat = k) (hq : ((2 ^ k : Nat) : Int) = q) (kk : Gx K G M cs ss (pc + 1) ls ((1, a / q) :: st) μ) : Gx K G M cs ss pc ls ((0, b) :: (1, a) :: st) μ := by
  refine x_lshr hd ?_
  rw [am_lshrK ha k hs hq]
  exact kk
theorem x_ishrK {a b q : Int} (hd : decode M.2.1 pc = .ok (.ishr, 1)) (ha : R32 a) (k : Nat) (hs : ((Int32.ofInt b &&& 31).toBitVec.smod 32).toNat = k) (hq : ((2 ^ k : Nat) : Int) = q) (kk : Gx K G M cs ss (pc + 1) ls ((0, a / q) :: st) μ) : Gx K G M cs ss pc ls ((0, b) :: (0, a) :: st) μ := by
  refine x_ishr hd ?_
  rw [am_ishrK ha k hs hq]
  exact kk
theorem x_land127 {a : Int} (hd : decode M.2.1 pc = .ok (.land, 1)) (kk : Gx K G M cs ss (pc + 1) ls ((1, a % 128) :: st) μ) : Gx K G M cs ss pc ls ((1, 127) :: (1, a) :: st) μ := by
  refine x_land hd ?_
  rw [am_land127]
  exact kk
theorem x_iand3 {a : Int} (hd : decode M.2.1 pc = .ok (.iand, 1)) (kk : Gx K G M cs ss (pc + 1) ls ((0, a % 4) :: st) μ) : Gx K G M cs ss pc ls ((0, 3) :: (0, a) :: st) μ := by
  refine x_iand hd ?_
  rw [am_iand3]
  exact kk
theorem x_iand255 {a : Int} (hd : decode M.2.1 pc = .ok (.iand, 1)) (kk : Gx K G M cs ss (pc + 1) ls ((0, a % 256) :: st) μ) : Gx K G M cs ss pc ls ((0, 255) :: (0, a) :: st) μ := by
  refine x_iand hd ?_
  rw [am_iand255]
  exact kk
theorem x_lc_eq {a b off : Int} {tgt : Nat} (hd1 : decode M.2.1 pc = .ok (.lcmp, 1)) (hd2 : decode M.2.1 (pc + 1) = .ok (.ifCond .eq off, 3)) (ht : ((pc + 1 : Nat) : Int) + off = (tgt : Int)) (ha : R64 a) (hb0 : R64 b) (kt : a = b → Gx K G M cs ss tgt ls st μ) (kf : ¬ a = b → Gx K G M cs ss (pc + 1 + 3) ls st μ) : Gx K G M cs ss pc ls ((1, b) :: (1, a) :: st) μ := by
  have hc := am_cmp_r a b
  refine x_lcmp hd1 ha hb0 (x_if_eq hd2 ht ⟨by omega, by omega⟩ (fun h => kt ?_) (fun h => kf ?_))
  · omega
  · omega
theorem x_lc_ne {a b off : Int} {tgt : Nat} (hd1 : decode M.2.1 pc = .ok (.lcmp, 1)) (hd2 : decode M.2.1 (pc + 1) = .ok (.ifCond .ne off, 3)) (ht : ((pc + 1 : Nat) : Int) + off = (tgt : Int)) (ha : R64 a) (hb0 : R64 b) (kt : ¬ a = b → Gx K G M cs ss tgt ls st μ) (kf : a = b → Gx K G M cs ss (pc + 1 + 3) ls st μ) : Gx K G M cs ss pc ls ((1, b) :: (1, a) :: st) μ := by
  have hc := am_cmp_r a b
  refine x_lcmp hd1 ha hb0 (x_if_ne hd2 ht ⟨by omega, by omega⟩ (fun h => kt ?_) (fun h => kf ?_))
  · omega
  · omega
theorem x_lc_lt {a b off : Int} {tgt : Nat} (hd1 : decode M.2.1 pc = .ok (.lcmp, 1)) (hd2 : decode M.2.1 (pc + 1) = .ok (.ifCond .lt off, 3)) (ht : ((pc + 1 : Nat) : Int) + off = (tgt : Int)) (ha : R64 a) (hb0 : R64 b) (kt : a < b → Gx K G M cs ss tgt ls st μ) (kf : b ≤ a → Gx K G M cs ss (pc + 1 + 3) ls st μ) : Gx K G M cs ss pc ls ((1, b) :: (1, a) :: st) μ := by
  have hc := am_cmp_r a b
  refine x_lcmp hd1 ha hb0 (x_if_lt hd2 ht ⟨by omega, by omega⟩ (fun h => kt ?_) (fun h => kf ?_))
  · omega
  · omega
theorem x_lc_ge {a b off : Int} {tgt : Nat} (hd1 : decode M.2.1 pc = .ok (.lcmp, 1)) (hd2 : decode M.2.1 (pc + 1) = .ok (.ifCond .ge off, 3)) (ht : ((pc + 1 : Nat) : Int) + off = (tgt : Int)) (ha : R64 a) (hb0 : R64 b) (kt : b ≤ a → Gx K G M cs ss tgt ls st μ) (kf : a < b → Gx K G M cs ss (pc + 1 + 3) ls st μ) : Gx K G M cs ss pc ls ((1, b) :: (1, a) :: st) μ := by
  have hc := am_cmp_r a b
  refine x_lcmp hd1 ha hb0 (x_if_ge hd2 ht ⟨by omega, by omega⟩ (fun h => kt ?_) (fun h => kf ?_))
  · omega
  · omega
theorem x_lc_gt {a b off : Int} {tgt : Nat} (hd1 : decode M.2.1 pc = .ok (.lcmp, 1)) (hd2 : decode M.2.1 (pc + 1) = .ok (.ifCond .gt off, 3)) (ht : ((pc + 1 : Nat) : Int) + off = (tgt : Int)) (ha : R64 a) (hb0 : R64 b) (kt : b < a → Gx K G M cs ss tgt ls st μ) (kf : a ≤ b → Gx K G M cs ss (pc + 1 + 3) ls st μ) : Gx K G M cs ss pc ls ((1, b) :: (1, a) :: st) μ := by
  have hc := am_cmp_r a b
  refine x_lcmp hd1 ha hb0 (x_if_gt hd2 ht ⟨by omega, by omega⟩ (fun h => kt ?_) (fun h => kf ?_))
  · omega
  · omega
theorem x_lc_le {a b off : Int} {tgt : Nat} (hd1 : decode M.2.1 pc = .ok (.lcmp, 1)) (hd2 : decode M.2.1 (pc + 1) = .ok (.ifCond .le off, 3)) (ht : ((pc + 1 : Nat) : Int) + off = (tgt : Int)) (ha : R64 a) (hb0 : R64 b) (kt : a ≤ b → Gx K G M cs ss tgt ls st μ) (kf : b < a → Gx K G M cs ss (pc + 1 + 3) ls st μ) : Gx K G M cs ss pc ls ((1, b) :: (1, a) :: st) μ := by
  have hc := am_cmp_r a b
  refine x_lcmp hd1 ha hb0 (x_if_le hd2 ht ⟨by omega, by omega⟩ (fun h => kt ?_) (fun h => kf ?_))
  · omega
  · omega
theorem x_max {a b : Int} (hf : am_Cm M pc Lib.Math.max.name Lib.Math.max.code 2 .int) (ha : R32 a) (hb : R32 b) (hcat : am_cs st ≤ 8) (hR : 1 ≤ K.1.frames ∧ 30 ≤ K.1.locals ∧ cs ≤ K.1.cells ∧ ss ≤ K.1.slots) (kk : Gx K G M cs ss (pc + 3) ls ((0, max a b) :: st) μ) : Gx K G M cs ss pc ls ((0, b) :: (0, a) :: st) μ := by
  obtain ⟨idx, hd, h1, h2, h3, h4, h5, h6⟩ := hf
  intro p e s m args below meth c H locs lsA hI
  obtain ⟨hX, hK, hP, hD, hS, hE, hl⟩ := id hI
  have hts := hX.2.2.2.2.1
  refine va_mmax hX.1 hX.2.1 (by rw [hX.2.2.1]; exact hl.1.symm) hX.2.2.2.1 (hts _ h1) (hts _ h2) (hts _ h3) (hts _ h4) hR.1 (by rw [am_cs_eq]; exact Nat.le_trans (Nat.add_le_add_right hcat 13) (Nat.le_trans (by decide) hR.2.1)) hR.2.2.1 hR.2.2.2 hd ?_
  have h9 : (if Int32.ofInt a < Int32.ofInt b then Int32.ofInt b else Int32.ofInt a) = Int32.ofInt (max a b) := by
    simp only [am_lt ha hb]
    split
    · rw [Int.max_eq_right (by omega)]
    · rw [Int.max_eq_left (by omega)]
  rw [h9]
  exact kk p e s m args below meth c H locs lsA hI
theorem x_min {a b : Int} (hf : am_Cm M pc Lib.Math.min.name Lib.Math.min.code 2 .int) (ha : R32 a) (hb : R32 b) (hcat : am_cs st ≤ 8) (hR : 1 ≤ K.1.frames ∧ 30 ≤ K.1.locals ∧ cs ≤ K.1.cells ∧ ss ≤ K.1.slots) (kk : Gx K G M cs ss (pc + 3) ls ((0, min a b) :: st) μ) : Gx K G M cs ss pc ls ((0, b) :: (0, a) :: st) μ := by
  obtain ⟨idx, hd, h1, h2, h3, h4, h5, h6⟩ := hf
  intro p e s m args below meth c H locs lsA hI
  obtain ⟨hX, hK, hP, hD, hS, hE, hl⟩ := id hI
  have hts := hX.2.2.2.2.1
  refine va_mmin hX.1 hX.2.1 (by rw [hX.2.2.1]; exact hl.1.symm) hX.2.2.2.1 (hts _ h1) (hts _ h2) (hts _ h3) (hts _ h4) hR.1 (by rw [am_cs_eq]; exact Nat.le_trans (Nat.add_le_add_right hcat 13) (Nat.le_trans (by decide) hR.2.1)) hR.2.2.1 hR.2.2.2 hd ?_
  have h9 : (if Int32.ofInt b < Int32.ofInt a then Int32.ofInt b else Int32.ofInt a) = Int32.ofInt (min a b) := by
    simp only [am_lt hb ha]
    split
    · rw [Int.min_eq_right (by omega)]
    · rw [Int.min_eq_left (by omega)]
  rw [h9]
  exact kk p e s m args below meth c H locs lsA hI
theorem x_abs {a : Int} (hf : am_Cm M pc Lib.Math.abs.name Lib.Math.abs.code 1 .int) (ha : R32 a) (hcat : am_cs st ≤ 8) (hR : 1 ≤ K.1.frames ∧ 30 ≤ K.1.locals ∧ cs ≤ K.1.cells ∧ ss ≤ K.1.slots) (kk : Gx K G M cs ss (pc + 3) ls ((0, if 0 ≤ a then a else -a) :: st) μ) : Gx K G M cs ss pc ls ((0, a) :: st) μ := by
  obtain ⟨idx, hd, h1, h2, h3, h4, h5, h6⟩ := hf
  intro p e s m args below meth c H locs lsA hI
  obtain ⟨hX, hK, hP, hD, hS, hE, hl⟩ := id hI
  have hts := hX.2.2.2.2.1
  refine va_mabs hX.1 hX.2.1 (by rw [hX.2.2.1]; exact hl.1.symm) hX.2.2.2.1 (hts _ h1) (hts _ h2) (hts _ h3) (hts _ h4) hR.1 (by rw [am_cs_eq]; exact Nat.le_trans (Nat.add_le_add_right hcat 13) (Nat.le_trans (by decide) hR.2.1)) hR.2.2.1 hR.2.2.2 hd ?_
  have h9 : (if 0 ≤ Int32.ofInt a then Int32.ofInt a else 0 - Int32.ofInt a) = Int32.ofInt (if 0 ≤ a then a else -a) := by
    simp only [am_0, am_le R32.zero ha]
    split
    · rfl
    · rw [← Int32.ofInt_sub, Int.zero_sub]
  rw [h9]
  exact kk p e s m args below meth c H locs lsA hI
end GxRows
/-! ===== worlds that grow ===== -/
/-- one object more -/
def ax (G : AG) (x : Nat × Nat) (q : Nat) : AG := (gD G, gC G, (fun o => if o = (gS G).length then q else gA G o), gL G, gS G ++ [x], gR G, gK G, gX G)
/-- as it was, but for objects more -/
def Xt (G G' : AG) : Prop := gD G' = gD G ∧ gC G' = gC G ∧ gL G' = gL G ∧ gK G' = gK G ∧ gX G' = gX G ∧ gR G' = gR G ∧ (∃ tl, gS G' = gS G ++ tl) ∧ ∀ o, o < (gS G).length → gA G' o = gA G o
/-- references among these stay below n -/
def lsok (n : Int) : List AV → Prop
  | [] => True
  | v :: vs => (v.1 = 2 → v.2 < n) ∧ lsok n vs
theorem nt_no {t : Nat} {x : Int} {P : Prop} (ht : t ≠ 2) (h : ((t, x) : AV).1 = 2) : P := absurd h ht
theorem lsok1 {n : Int} {t : Nat} {x : Int} (h : t ≠ 2) : lsok n (some (t, x) : Option AV).toList := by
  show (t = 2 → x < n) ∧ True
  exact ⟨fun h2 => absurd h2 h, trivial⟩
/-- fields refer to objects that are there -/
def wfm (G : AG) (μ : Mu) : Prop := ∀ (o ci n : Nat), (gS G)[o]? = some (ci, n) → ci < 20 → ∀ k, k < n → (am_ct ci k = 2 → gR G o k < ((gS G).length : Int)) ∧ (2 < am_ct ci k → μ o k < ((gS G).length : Int))
section grow
variable {G G' G2 : AG} {x : Nat × Nat} {q : Nat} {μ μ' : Mu}
theorem Xt.rf : Xt G G := ⟨rfl, rfl, rfl, rfl, rfl, rfl, ⟨[], by simp⟩, fun _ _ => rfl⟩
theorem Xt.len (h : Xt G G') : (gS G).length ≤ (gS G').length := by
  obtain ⟨tl, h1⟩ := h.2.2.2.2.2.2.1
  rw [h1, List.length_append]; omega
theorem Xt.sh (h : Xt G G') {o : Nat} {y : Nat × Nat} (hs : (gS G)[o]? = some y) : (gS G')[o]? = some y := by
  obtain ⟨tl, h1⟩ := h.2.2.2.2.2.2.1
  rw [h1, List.getElem?_append_left (am_sh_lt hs)]; exact hs
theorem Xt.tr (h1 : Xt G G') (h2 : Xt G' G2) : Xt G G2 := by
  obtain ⟨a1, a2, a3, a4, a5, a6, ⟨tl, a7⟩, a8⟩ := id h1
  obtain ⟨b1, b2, b3, b4, b5, b6, ⟨tl2, b7⟩, b8⟩ := h2
  exact ⟨b1.trans a1, b2.trans a2, b3.trans a3, b4.trans a4, b5.trans a5, b6.trans a6, ⟨tl ++ tl2, by rw [b7, a7, List.append_assoc]⟩, fun o ho => (b8 o (Nat.lt_of_lt_of_le ho h1.len)).trans (a8 o ho)⟩
theorem ax_len : (gS (ax G x q)).length = (gS G).length + 1 := by show (gS G ++ [x]).length = _; simp
theorem ax_A {o : Nat} (h : o < (gS G).length) : gA (ax G x q) o = gA G o := by
  show (if o = (gS G).length then q else gA G o) = gA G o
  rw [if_neg (by omega)]
theorem ax_Aq : gA (ax G x q) (gS G).length = q := by
  show (if (gS G).length = (gS G).length then q else gA G _) = q
  rw [if_pos rfl]
theorem Xt.ax (G : AG) (x : Nat × Nat) (q : Nat) : Xt G (ax G x q) := ⟨rfl, rfl, rfl, rfl, rfl, rfl, ⟨[x], rfl⟩, fun _ ho => ax_A ho⟩
theorem ax_sh : (gS (ax G x q))[(gS G).length]? = some x := by show (gS G ++ [x])[(gS G).length]? = some x; simp
theorem am_ref_xt (h : Xt G G') {z : Int} (hz : z < ((gS G).length : Int)) : am_ref G' z = am_ref G z := by
  unfold am_ref
  split
  · rfl
  · rw [h.2.2.2.2.2.2.2 z.toNat (by omega)]
theorem am_c_xt (h : Xt G G') {v : AV} (hv : v.1 = 2 → v.2 < ((gS G).length : Int)) : am_c G' v = am_c G v := by
  obtain ⟨t, z⟩ := v
  match t, hv with
  | 0, _ => rfl
  | 1, _ => rfl
  | 2, hv => exact am_ref_xt h (hv rfl)
  | n + 3, _ => simp only [am_c, h.2.2.2.1]
theorem lsok.at {n : Int} : ∀ {ls : List AV}, lsok n ls → ∀ v ∈ ls, v.1 = 2 → v.2 < n := by
  intro ls
  induction ls with
  | nil => intro _ v hv; cases hv
  | cons w ws ih =>
    intro h v hv
    rcases List.mem_cons.mp hv with rfl | hv
    · exact h.1
    · exact ih h.2 v hv
theorem am_l_xt (h : Xt G G') : ∀ (ls : List AV) (j : Nat), lsok ((gS G).length : Int) ls → am_l G' j ls = am_l G j ls := by
  intro ls
  induction ls with
  | nil => intro j _; rfl
  | cons v vs ih =>
    intro j hl
    unfold am_l
    rw [ih (j + 1) hl.2, am_c_xt h hl.1]
theorem am_map_xt (h : Xt G G') {st : List AV} (hl : lsok ((gS G).length : Int) st) : st.map (am_c G') = st.map (am_c G) := by
  induction st with
  | nil => rfl
  | cons v vs ih => rw [List.map_cons, List.map_cons, ih hl.2, am_c_xt h hl.1]
theorem am_el_xt (h : Xt G G') (hw : wfm G μ) {o : Nat} (ho : o < (gS G).length) (hm : ∀ k : Int, μ' o k = μ o k) : am_el G' μ' o = am_el G μ o := by
  obtain ⟨y, hy⟩ : ∃ y, (gS G)[o]? = some y := ⟨_, List.getElem?_eq_getElem ho⟩
  obtain ⟨ci, n⟩ := y
  unfold am_el
  rw [am_sh_d hy, am_sh_d (h.sh hy), h.2.1]
  by_cases hc : ci < 20
  · simp only [hc, if_true]
    congr 2
    apply List.map_congr_left
    intro k hk
    have hk' : k < n := List.mem_range.mp hk
    obtain ⟨w2, w3⟩ := hw o ci n hy hc k hk'
    unfold am_fv
    rw [h.2.2.2.2.2.1, hm]
    match hct : am_ct ci k, w2, w3 with
    | 0, _, _ => rfl
    | 1, _, _ => rfl
    | 2, w2, _ => exact am_ref_xt h (w2 rfl)
    | c + 3, _, w3 => exact am_ref_xt h (w3 (by omega))
  · simp only [hc, if_false, hm]
theorem am_pic_ax (hw : wfm G μ) (hm : ∀ o : Nat, o < (gS G).length → ∀ k : Int, μ' o k = μ o k) : am_pic (ax G x q) μ' = am_pic G μ ++ [(q, am_el (ax G x q) μ' (gS G).length)] := by
  unfold am_pic
  rw [ax_len, List.range_succ, List.map_append, List.map_cons, List.map_nil, ax_Aq]
  congr 1
  apply List.map_congr_left
  intro o ho
  have ho' := List.mem_range.mp ho
  rw [ax_A ho', am_el_xt (Xt.ax G x q) hw ho' (hm o ho')]
/-- the new row, all 0 -/
def am_nw (μ : Mu) (n : Nat) : Mu := fun a b => if a = (n : Int) then 0 else μ a b
theorem am_nw_o {n : Nat} {o : Int} (h : o ≠ (n : Int)) : am_nw μ n o = μ o := by funext b; simp [am_nw, h]
theorem am_nw_at {n : Nat} {b : Int} : am_nw μ n (n : Int) b = 0 := by simp [am_nw]
end grow
/-! ===== contracts of frames that make rows; calls ===== -/
def gx_A (K : XKt) : Prop := ∀ (s : State) (q : Nat), s.heap.size ≤ q → K.2.2 s q
def xR (M : AMeth) (mc ms : Nat) : Room := { frames := M.2.2.2.2.1, cells := mc, slots := ms, locals := M.2.2.2.2.2 }
def x_Q (G : AG) (sz : Nat) (P : AG → Option AV → Mu → Prop) : Array Value → State → Outcome → State → Prop := fun _ st oc t =>
  ∃ (G' : AG) (r : Option AV) (μ' : Mu), P G' r μ' ∧ Xt G G' ∧ oc = .returned (r.map (am_c G')) ∧ va_P (gD G) vwCl (am_pic G' μ') t.heap ∧ va_D (am_A G sz) (am_pic G' μ') ∧ va_K (gD G) vwCl (am_tys G) t ∧ va_F (am_A G sz) st t
def xK (G : AG) (M : AMeth) (mc ms : Nat) (P : AG → Option AV → Mu → Prop) : XKt :=
  (xR M mc ms, fun _ _ s _ args below _ _ => MQ below (x_Q G s.heap.size P) args s mc ms (am_A G s.heap.size), fun s => am_A G s.heap.size)
theorem xK_A {G : AG} {M : AMeth} {mc ms : Nat} {P : AG → Option AV → Mu → Prop} : gx_A (xK G M mc ms P) := fun _ _ h => Or.inr h
/-- room for a call -/
def g_Room (R : Room) (M2 : AMeth) : Prop := M2.2.2.2.2.1 + 1 ≤ R.frames ∧ 8 + (M2.2.2.1 + 11) + M2.2.2.2.2.2 ≤ R.locals
def g_Cv (M : AMeth) (pc : Nat) (M2 : AMeth) (n : Nat) : Prop := ∃ idx : Nat, decode M.2.1 pc = .ok (.invokevirtual idx, 3) ∧ Cond.methodLink M.1.cls idx M2.1 ∈ TW ∧ Cond.instanceMethod M2.1 ∈ TW ∧ Cond.selects M2.1.cls M2.1 M2.1 ∈ TW ∧ am_Ok M2 n
def g_Cs (M : AMeth) (pc : Nat) (M2 : AMeth) (n : Nat) : Prop := ∃ idx : Nat, decode M.2.1 pc = .ok (.invokestatic idx, 3) ∧ Cond.methodLink M.1.cls idx M2.1 ∈ TW ∧ Cond.static M2.1 ∈ TW ∧ am_Ok M2 n
theorem am_Cs.g {M M2 : AMeth} {pc n : Nat} (h : am_Cs M pc M2 n) : g_Cs M pc M2 n := by
  obtain ⟨i, h1, h2, h3, h4, -⟩ := h
  exact ⟨i, h1, h2, h3, h4⟩
theorem am_Cv.g {M M2 : AMeth} {pc n : Nat} (h : am_Cv M pc M2 n) : g_Cv M pc M2 n := by
  obtain ⟨i, h1, h2, h3, h4, h5, -⟩ := h
  exact ⟨i, h1, h2, h3, h4, h5⟩
section gxc
variable {K : XKt} {G Gs : AG} {M M2 : AMeth} {cs ss pc : Nat} {ls ls2 st rest as : List AV} {μ μ1 : Mu} {k n mc ms : Nat} {P : AG → Option AV → Mu → Prop} {r1 : Option AV}
theorem gx_met (hok : am_Ok M2 n) (hls : ls2 = am_args as ++ List.replicate k (9, 0)) (hl2 : ls2.length = M2.2.2.1) (ht : am_tok as = true) (hcall : Gx (xK G M2 mc ms P) G M2 0 0 0 ls2 [] μ) (sz : Nat) :
    Met (gL G) M2.1 (am_ws M2) (xR M2 mc ms) (am_Pc G sz as μ) (x_Q G sz P) mc ms (am_A G sz) := by
  subst hls
  refine am_ofW (cc := M2.2.1) (maxL := M2.2.2.1) (ret := M2.2.2.2.1) hok.2.2.1 rfl ?_
  intro p e s m args below meth c s₁ B hml hv0
  obtain ⟨rfl, hsz, hP, hK, hD0, hE⟩ := hv0
  subst hsz
  have hts := atoms_spec (ws := am_ws M2) B.pre
  have hlen : (lg_sl (as.map (am_c G))).length ≤ M2.2.2.1 := by
    rw [am_sl_len, ← hl2, List.length_append]
    omega
  have hl := lv_entry (as.map (am_c G)) (n := M2.2.2.1) hlen
  rw [lg_entry_eq]
  exact hcall p e s m _ below meth c s.heap [] _ ⟨⟨B.exec, B.bytes, hml, findClass_of_methodNamed B.named, fun w hw => hts w (List.mem_cons_of_mem _ hw), B.returns, B.notSynchronized⟩, hK, hP, am_pic_D hD0, va_S.rf, ⟨hE.1, hE.2, fun hn => ((name_of_methodNamed B.named B.method).1).trans hn⟩, lv_mono hl (am_l_args as 0 k (am_tok_spec ht))⟩
theorem gx_sub {p : Program} {s : State} {m : MethodId} {args : Array Value} {meth : Method} {c : Code} {H : Heap} {locs : List Loc} {lsA : Array Slot} (hKA : gx_A K) (hX : Xt Gs G) (hI : gx_In K G M p s m args meth c H locs lsA ls μ) :
    ∀ q, am_A Gs H.size q → K.2.2 s q := by
  intro q hq
  rcases hq with ⟨o, ho, rfl⟩ | hq
  · rw [← hX.2.2.2.2.2.2.2 o ho]
    exact hI.2.2.2.1.2 o _ (am_pic_get (Nat.lt_of_lt_of_le ho hX.len))
  · exact hKA s q (Nat.le_trans hI.2.2.2.2.1.1 hq)
theorem gx_picS {p : Program} {s : State} {m : MethodId} {args : Array Value} {meth : Method} {c : Code} {H : Heap} {locs : List Loc} {lsA : Array Slot} (hX : Xt Gs G) (hw : wfm Gs μ) (hI : gx_In K G M p s m args meth c H locs lsA ls μ) :
    va_P (gD Gs) vwCl (am_pic Gs μ) H ∧ va_D (fun _ => True) (am_pic Gs μ) := by
  have hget : ∀ (k : Nat) (q : Nat × va_E), (am_pic Gs μ)[k]? = some q → (am_pic G μ)[k]? = some q := by
    intro k q hk
    have hlt := (List.getElem?_eq_some_iff.mp hk).1
    rw [am_pic_len] at hlt
    rw [am_pic_get hlt] at hk
    cases hk
    rw [am_pic_get (Nat.lt_of_lt_of_le hlt hX.len), hX.2.2.2.2.2.2.2 k hlt, am_el_xt hX hw hlt (fun _ => rfl)]
  refine ⟨fun k q hk => ?_, fun i j x y hx hy hxy => hI.2.2.2.1.1 i j x y (hget i x hx) (hget j y hy) hxy, fun _ _ _ => trivial⟩
  have h1 := hI.2.2.1 k q (hget k q hk)
  rw [hX.1] at h1
  exact h1
theorem gx_pre {p : Program} {s : State} {m : MethodId} {args : Array Value} {meth : Method} {c : Code} {H : Heap} {locs : List Loc} {lsA : Array Slot} (hKA : gx_A K) (hX : Xt Gs G) (hw : wfm Gs μ) (hI : gx_In K G M p s m args meth c H locs lsA ls μ) :
    PreS s H (am_Pc Gs H.size as μ) (as.map (am_c Gs)) := by
  obtain ⟨hP, hD⟩ := gx_picS hX hw hI
  have hsub := gx_sub hKA hX hI
  obtain ⟨hX0, hK, -, -, hS, hE, hl⟩ := hI
  refine ⟨am_Pc_blind, fun U hU hW => ⟨rfl, by rw [hU], by rw [hU]; exact hP, ?_, hD, ?_, ?_⟩⟩
  · have h1 := va_K.moved hW.alike hK
    unfold am_tys at h1 ⊢
    rw [hX.1, hX.2.1] at h1
    exact h1
  · have h1 := ((hE.1.kept hS.2.1).moved hW.alike).narrow hsub
    rw [hU]
    unfold am_E0 am_Sc at h1 ⊢
    rw [hX.2.2.2.1, hX.2.2.2.2.1] at h1
    exact h1
  · intro i q hq
    have h1 := vk_R.warm hW (hE.2.1 i q hq)
    rw [hX.2.2.2.1] at h1
    exact h1
/-- behind a call over part of the world -/
theorem gx_backS {p : Program} {e : Env} {s : State} {m : MethodId} {args : Array Value} {below : List Frame} {meth : Method} {c : Code} {H : Heap} {locs : List Loc} {lsA : Array Slot} {a : Array Value} {Q : State → Prop} {st0 rst : List Value}
    (hKA : gx_A K) (hX : Xt Gs G) (hw : wfm Gs μ) (hw1 : wfm Gs μ1) (hF : ∀ o : Int, ((gS Gs).length : Int) ≤ o → μ1 o = μ o) (hI : gx_In K G M p s m args meth c H locs lsA ls μ)
    (hr : va_Run p (gL G) e K.1 s m args below meth c H locs cs ss 0 0 (F0 m pc lsA st0) rst (am_Q Gs H.size r1 μ1 a) (am_A Gs H.size))
    (kk : ∀ (H1 : Heap) (locs1 : List Loc), gx_In K G M p s m args meth c H1 locs1 lsA ls μ1 → W p (gL G) e K.1 s m args below meth c H1 locs1 cs ss Q (F0 m (pc + 3) lsA ((r1.map (am_c Gs)).toList ++ rst))) :
    W p (gL G) e K.1 s m args below meth c H locs cs ss Q (F0 m pc lsA st0) := by
  have hsub := gx_sub hKA hX hI
  have hS := hI.2.2.2.2.1
  have hD := hI.2.2.2.1
  have hP := hI.2.2.1
  intro T hT X
  obtain ⟨v, st₀, t, T', L, h0, X', hL, e1, e2, ⟨⟨hv, hP1, hK1⟩, hz, hk⟩, st⟩ := hr T hT X
  cases hv
  rw [h0] at hz hk
  have hget : ∀ (k : Nat) (q : Nat × va_E), (am_pic G μ1)[k]? = some q → k < (gS G).length ∧ q = (gA G k, am_el G μ1 k) := by
    intro k q hk
    have hlt := (List.getElem?_eq_some_iff.mp hk).1
    rw [am_pic_len] at hlt
    rw [am_pic_get hlt] at hk
    cases hk
    exact ⟨hlt, rfl⟩
  have hIn : gx_In K G M p s m args meth c T'.heap (locs ++ L) lsA ls μ1 := by
    refine ⟨hI.1, hI.2.1, ?_, ⟨?_, ?_⟩, ⟨Nat.le_trans hS.1 (by rw [e1]; exact hz), fun q h1 h2 => by rw [e1, hk q (Nat.lt_of_lt_of_le h1 hS.1) (fun z => h2 (hsub q z))]; exact hS.2.1 q h1 h2, fun q hq => by
      rcases List.mem_append.mp hq with h | h
      · exact hS.2.2 q h
      · exact hsub _ (hL q h)⟩, hI.2.2.2.2.2.1, hI.2.2.2.2.2.2⟩
    · intro k q hkq
      obtain ⟨hlt, rfl⟩ := hget k q hkq
      by_cases hks : k < (gS Gs).length
      · have h1 := hP1 k _ (am_pic_get (μ := μ1) hks)
        rw [← hX.2.2.2.2.2.2.2 k hks, ← am_el_xt hX hw1 hks (fun _ => rfl), ← hX.1, ← e1] at h1
        exact h1
      · have he : am_el G μ1 k = am_el G μ k := am_el_congr (fun j => by rw [hF k (by omega)])
        rw [he, e1]
        have h2 := hP k _ (am_pic_get (μ := μ) hlt)
        refine h2.kept ?_
        refine hk _ h2.lt (fun z => ?_)
        rcases z with ⟨o, ho, hoq⟩ | z
        · have h3 := hD.1 k o _ _ (am_pic_get (μ := μ) hlt) (am_pic_get (μ := μ) (Nat.lt_of_lt_of_le ho hX.len)) (by rw [hX.2.2.2.2.2.2.2 o ho]; exact hoq)
          omega
        · exact absurd h2.lt (Nat.not_lt.mpr z)
    · intro i j x y hx hy hxy
      obtain ⟨h1, rfl⟩ := hget i x hx
      obtain ⟨h2, rfl⟩ := hget j y hy
      exact hD.1 i j _ _ (am_pic_get (μ := μ) h1) (am_pic_get (μ := μ) h2) hxy
    · intro k q hkq
      obtain ⟨hlt, rfl⟩ := hget k q hkq
      exact hD.2 k (gA G k, am_el G μ k) (am_pic_get (μ := μ) hlt)
  obtain ⟨t2, a1, b1⟩ := kk T'.heap (locs ++ L) hIn T' rfl X'
  exact ⟨t2, st t2 a1, b1⟩
/-- a static call over part of the world -/
theorem x_callSE (hf : g_Cs M pc M2 n) (hR : g_Room K.1 M2) (hroom : cs ≤ K.1.cells ∧ ss ≤ K.1.slots) (hKA : gx_A K) (hX : Xt Gs G) (hw : wfm Gs μ) (hw1 : wfm Gs μ1) (hF : ∀ o : Int, ((gS Gs).length : Int) ≤ o → μ1 o = μ o)
    (hst : st = as.reverse ++ rest) (hn : as.length = n) (hls : ls2 = am_args as ++ List.replicate k (9, 0)) (hl2 : ls2.length = M2.2.2.1) (ht : am_tok as = true) (hcat : am_cs rest ≤ 8) (hia : lsok ((gS Gs).length : Int) as) (hir : lsok ((gS Gs).length : Int) r1.toList)
    (hcall : Ev Gs M2 0 ls2 [] μ r1 μ1) (kk : Gx K G M cs ss (pc + 3) ls (r1.toList ++ rest) μ1) : Gx K G M cs ss pc ls st μ := by
  obtain ⟨idx, hd, hlink, hstat, hok⟩ := hf
  intro p e s m args below meth c H locs lsA hI
  have hX0 := hI.1
  have hl := hI.2.2.2.2.2.2
  subst hst
  refine gx_backS (r1 := r1) (a := ?a9) (rst := rest.map (am_c G)) hKA hX hw hw1 hF hI ?r9 (fun H1 locs1 hI1 => ?k9)
  case r9 =>
    rw [hX.2.2.1]
    refine va_runS (As := as.map (am_c Gs)) (rest := rest.map (am_c G)) ⟨hX0.1, hX0.2.1, hX0.2.2.1, hX0.2.2.2.1, hX0.2.2.2.2.1⟩ (am_met hok hls hl2 ht hcall H.size)
      (va_cwS n hX0.2.2.2.2.1 (am_good ?_) rfl rfl rfl hok.2.2.2 hR) (gx_pre hKA hX hw hI) rfl (by rw [List.length_map, hn]) hl.1 ?_ (lv_room (by rw [am_cs_eq]; exact hcat)) hd ⟨hroom.1, hroom.2⟩
    · intro w hw
      rcases List.mem_append.mp hw with h | h
      · simp only [List.mem_cons, List.not_mem_nil, or_false] at h
        rcases h with rfl | rfl | rfl
        · exact hlink
        · exact hstat
        · exact hok.2.1
      · exact am_ws_in hok w h
    · show (as.reverse ++ rest).map (am_c G) = _
      rw [List.map_append, List.map_reverse, am_map_xt hX hia]
  case k9 =>
    have h9 := kk p e s m args below meth c H1 locs1 lsA hI1
    rw [List.map_append, am_map_xt hX hir] at h9
    cases r1 <;> exact h9
/-- a call of a method of an object, over part of the world -/
theorem x_callVE {o ci : Nat} {z : Int} (hf : g_Cv M pc M2 n) (hR : g_Room K.1 M2) (hroom : cs ≤ K.1.cells ∧ ss ≤ K.1.slots) (hKA : gx_A K) (hX : Xt Gs G) (hw : wfm Gs μ) (hw1 : wfm Gs μ1) (hF : ∀ o : Int, ((gS Gs).length : Int) ≤ o → μ1 o = μ o)
    (hst : st = as.reverse ++ (2, z) :: rest) (ho : z = (o : Int)) (hs : (gS Gs)[o]? = some (ci, am_N ci)) (hc : (vwCl[ci]?).map (fun q => q.1) = some M2.1.cls) (hn : as.length = n) (hls : ls2 = am_args ((2, z) :: as) ++ List.replicate k (9, 0)) (hl2 : ls2.length = M2.2.2.1) (ht : am_tok as = true) (hcat : am_cs rest ≤ 8) (hia : lsok ((gS Gs).length : Int) as) (hir : lsok ((gS Gs).length : Int) r1.toList)
    (hcall : Ev Gs M2 0 ls2 [] μ r1 μ1) (kk : Gx K G M cs ss (pc + 3) ls (r1.toList ++ rest) μ1) : Gx K G M cs ss pc ls st μ := by
  obtain ⟨idx, hd, hlink, hinst, hsel, hok⟩ := hf
  intro p e s m args below meth c H locs lsA hI
  have hX0 := hI.1
  have hl := hI.2.2.2.2.2.2
  subst hst
  have hz : 0 ≤ z := by omega
  have hzo : z.toNat = o := by omega
  have hol := am_sh_lt hs
  obtain ⟨hPs, hDs⟩ := gx_picS hX hw hI
  obtain ⟨q, hq, hqc⟩ : ∃ q : vw_C, vwCl[ci]? = some q ∧ q.1 = M2.1.cls := by
    cases h : vwCl[ci]? with
    | none => rw [h] at hc; cases hc
    | some q => rw [h] at hc; exact ⟨q, rfl, Option.some.inj hc⟩
  have hKs : va_K (gD Gs) vwCl (am_tys Gs) s := by
    have h1 := hI.2.1
    unfold am_tys at h1 ⊢
    rw [hX.1, hX.2.1] at h1
    exact h1
  have hrec := va_recv hKs hPs hq (am_pic_at (G := Gs) (μ := μ) hs (am_el_obj hs (am_cls ci q hq).2.2.2.2))
  rw [hqc] at hrec
  have hpre := gx_pre (as := (2, z) :: as) hKA hX hw hI
  rw [List.map_cons, am_ref_pos hz, hzo] at hpre
  refine gx_backS (r1 := r1) (a := ?a9) (rst := rest.map (am_c G)) hKA hX hw hw1 hF hI ?r9 (fun H1 locs1 hI1 => ?k9)
  case r9 =>
    rw [hX.2.2.1]
    refine va_runV (As := as.map (am_c Gs)) (rest := rest.map (am_c G)) ⟨hX0.1, hX0.2.1, hX0.2.2.1, hX0.2.2.2.1, hX0.2.2.2.2.1⟩ (am_met (as := (2, z) :: as) hok hls hl2 (by simp [am_tok, ht]) hcall H.size)
      (cwV (C := M2.1.cls) n hX0.2.2.2.2.1 (am_good ?_) rfl rfl rfl ⟨rfl, hok.2.2.2⟩ hR) ⟨hpre.1, hrec, hpre.2⟩ rfl (by rw [List.length_map, hn]) hl.1 ?_ (lv_room (by rw [am_cs_eq]; exact hcat)) hd ⟨hroom.1, hroom.2⟩
    · intro w hw
      rcases List.mem_append.mp hw with h | h
      · simp only [List.mem_cons, List.not_mem_nil, or_false] at h
        rcases h with rfl | rfl | rfl | rfl
        · exact hlink
        · exact hinst
        · exact hsel
        · exact hok.2.1
      · exact am_ws_in hok w h
    · show (as.reverse ++ (2, z) :: rest).map (am_c G) = _
      rw [List.map_append, List.map_reverse, List.map_cons, am_ref_pos hz, hzo, am_map_xt hX hia, hX.2.2.2.2.2.2.2 o hol]
  case k9 =>
    have h9 := kk p e s m args below meth c H1 locs1 lsA hI1
    rw [List.map_append, am_map_xt hX hir] at h9
    cases r1 <;> exact h9
/-- a static call of a method that makes rows -/
theorem x_callSX (hf : g_Cs M pc M2 n) (hR : g_Room K.1 M2) (hroom : cs + mc ≤ K.1.cells ∧ ss + ms ≤ K.1.slots) (hKA : gx_A K) (hw : wfm G μ)
    (hst : st = as.reverse ++ rest) (hn : as.length = n) (hls : ls2 = am_args as ++ List.replicate k (9, 0)) (hl2 : ls2.length = M2.2.2.1) (ht : am_tok as = true) (hcat : am_cs rest ≤ 8) (hol : lsok ((gS G).length : Int) ls) (hor : lsok ((gS G).length : Int) rest)
    (hcall : Gx (xK G M2 mc ms P) G M2 0 0 0 ls2 [] μ) (kk : ∀ (G' : AG) (r : Option AV) (μ' : Mu), P G' r μ' → Xt G G' → Gx K G' M (cs + mc) (ss + ms) (pc + 3) ls (r.toList ++ rest) μ') : Gx K G M cs ss pc ls st μ := by
  obtain ⟨idx, hd, hlink, hstat, hok⟩ := hf
  intro p e s m args below meth c H locs lsA hI
  have hX0 := hI.1
  have hl := hI.2.2.2.2.2.2
  subst hst
  have hrun := va_runS (R := K.1) (p := p) (e := e) (below := below) (meth := meth) (locs := locs) (cells := cs) (slots := ss) (g := F0 m pc lsA ((as.reverse ++ rest).map (am_c G))) (As := as.map (am_c G)) (rest := rest.map (am_c G)) ⟨hX0.1, hX0.2.1, hX0.2.2.1, hX0.2.2.2.1, hX0.2.2.2.2.1⟩ (gx_met hok hls hl2 ht hcall H.size)
    (va_cwS n hX0.2.2.2.2.1 (am_good (by
      intro w hw
      rcases List.mem_append.mp hw with h | h
      · simp only [List.mem_cons, List.not_mem_nil, or_false] at h
        rcases h with rfl | rfl | rfl
        · exact hlink
        · exact hstat
        · exact hok.2.1
      · exact am_ws_in hok w h)) rfl rfl rfl hok.2.2.2 hR) (gx_pre hKA Xt.rf hw hI) rfl (by rw [List.length_map, hn]) hl.1 (by show (as.reverse ++ rest).map (am_c G) = _; rw [List.map_append, List.map_reverse]) (lv_room (by rw [am_cs_eq]; exact hcat)) hd hroom
  have hsub := gx_sub hKA Xt.rf hI
  have hS := hI.2.2.2.2.1
  intro T hT X
  obtain ⟨v, st₀, t, T', L, h0, X', hL, e1, e2, ⟨G', r, μ', hp, hx, hv, hP1, hD1, hK1, hz, hk⟩, stp⟩ := hrun T hT X
  cases hv
  rw [h0] at hz hk
  have hIn : gx_In K G' M p s m args meth c T'.heap (locs ++ L) lsA ls μ' := by
    refine ⟨hX0, ?_, ?_, ?_, ⟨Nat.le_trans hS.1 (by rw [e1]; exact hz), fun q h1 h2 => by rw [e1, hk q (Nat.lt_of_lt_of_le h1 hS.1) (fun z => h2 (hsub q z))]; exact hS.2.1 q h1 h2, fun q hq => by
      rcases List.mem_append.mp hq with h | h
      · exact hS.2.2 q h
      · exact hsub _ (hL q h)⟩, ⟨?_, ?_, hI.2.2.2.2.2.1.2.2⟩, ?_⟩
    · have h1 := hI.2.1
      unfold am_tys at h1 ⊢
      rw [hx.1, hx.2.1]
      exact h1
    · rw [e1, hx.1]; exact hP1
    · exact ⟨hD1.1, fun k q hk => hsub q.1 (hD1.2 k q hk)⟩
    · have h1 := hI.2.2.2.2.2.1.1
      unfold am_E0 am_Sc at h1 ⊢
      rw [hx.2.2.2.1, hx.2.2.2.2.1]
      exact h1
    · intro i q hq
      rw [hx.2.2.2.1]
      exact hI.2.2.2.2.2.1.2.1 i q hq
    · rw [am_l_xt hx ls 0 hol]; exact hl
  obtain ⟨t2, a1, b1⟩ := kk G' r μ' hp hx p e s m args below meth c T'.heap (locs ++ L) lsA hIn T' rfl (by rw [hx.2.2.1]; exact X')
  refine ⟨t2, stp t2 ?_, b1⟩
  have e9 : (F0 m (pc + 3) lsA ((r.toList ++ rest).map (am_c G')) : JFrame) = { F0 m pc lsA ((as.reverse ++ rest).map (am_c G)) with pc := pc + 3, stack := (r.map (am_c G')).toList ++ rest.map (am_c G) } := by
    rw [List.map_append, am_map_xt hx hor]
    cases r <;> rfl
  rw [e9] at a1
  exact a1
/-- calls that change nothing -/
theorem x_callSP {t : Nat} {x : Int} (hf : g_Cs M pc M2 n) (hR : g_Room K.1 M2) (hroom : cs ≤ K.1.cells ∧ ss ≤ K.1.slots) (hKA : gx_A K) (hw : wfm G μ)
    (hst : st = as.reverse ++ rest) (hn : as.length = n) (hls : ls2 = am_args as ++ List.replicate k (9, 0)) (hl2 : ls2.length = M2.2.2.1) (ht : am_tok as = true) (hcat : am_cs rest ≤ 8) (hia : lsok ((gS G).length : Int) as) (ht2 : t ≠ 2)
    (hcall : Wp G M2 0 ls2 [] μ (pP t x μ)) (kk : Gx K G M cs ss (pc + 3) ls ((t, x) :: rest) μ) : Gx K G M cs ss pc ls st μ := by
  obtain ⟨r1, μ1, h1, rfl, rfl⟩ := hcall
  exact x_callSE hf hR hroom hKA Xt.rf hw hw (fun _ _ => rfl) hst hn hls hl2 ht hcat hia (lsok1 ht2) h1 kk
/-- calls of the class -/
theorem x_callVP {o ci t : Nat} {z x : Int} (hf : g_Cv M pc M2 n) (hR : g_Room K.1 M2) (hroom : cs ≤ K.1.cells ∧ ss ≤ K.1.slots) (hKA : gx_A K) (hX : Xt Gs G) (hw : wfm Gs μ)
    (hst : st = as.reverse ++ (2, z) :: rest) (ho : z = (o : Int)) (hs : (gS Gs)[o]? = some (ci, am_N ci)) (hc : (vwCl[ci]?).map (fun q => q.1) = some M2.1.cls) (hn : as.length = n) (hls : ls2 = am_args ((2, z) :: as) ++ List.replicate k (9, 0)) (hl2 : ls2.length = M2.2.2.1) (ht : am_tok as = true) (hcat : am_cs rest ≤ 8) (hia : lsok ((gS Gs).length : Int) as) (ht2 : t ≠ 2)
    (hcall : Wp Gs M2 0 ls2 [] μ (pP t x μ)) (kk : Gx K G M cs ss (pc + 3) ls ((t, x) :: rest) μ) : Gx K G M cs ss pc ls st μ := by
  obtain ⟨r1, μ1, h1, rfl, rfl⟩ := hcall
  exact x_callVE hf hR hroom hKA hX hw hw (fun _ _ => rfl) hst ho hs hc hn hls hl2 ht hcat hia (lsok1 ht2) h1 kk
theorem x_callVI {o ci t : Nat} {z : Int} {P1 : Int → Mu → Prop} (hf : g_Cv M pc M2 n) (hR : g_Room K.1 M2) (hroom : cs ≤ K.1.cells ∧ ss ≤ K.1.slots) (hKA : gx_A K) (hX : Xt Gs G) (hw : wfm Gs μ)
    (hst : st = as.reverse ++ (2, z) :: rest) (ho : z = (o : Int)) (hs : (gS Gs)[o]? = some (ci, am_N ci)) (hc : (vwCl[ci]?).map (fun q => q.1) = some M2.1.cls) (hn : as.length = n) (hls : ls2 = am_args ((2, z) :: as) ++ List.replicate k (9, 0)) (hl2 : ls2.length = M2.2.2.1) (ht : am_tok as = true) (hcat : am_cs rest ≤ 8) (hia : lsok ((gS Gs).length : Int) as) (ht2 : t ≠ 2)
    (hcall : Wp Gs M2 0 ls2 [] μ (qI t P1)) (hp : ∀ x μ1, P1 x μ1 → wfm Gs μ1 ∧ ∀ o : Int, ((gS Gs).length : Int) ≤ o → μ1 o = μ o) (kk : ∀ x μ1, P1 x μ1 → Gx K G M cs ss (pc + 3) ls ((t, x) :: rest) μ1) : Gx K G M cs ss pc ls st μ := by
  obtain ⟨r1, μ1, h1, x, rfl, h2⟩ := hcall
  exact x_callVE hf hR hroom hKA hX hw (hp x μ1 h2).1 (hp x μ1 h2).2 hst ho hs hc hn hls hl2 ht hcat hia (lsok1 ht2) h1 (kk x μ1 h2)
/-- ends -/
theorem gx_end {G2 : AG} {r : Option AV} {p : Program} {s t : State} {m : MethodId} {args a : Array Value} {meth : Method} {c : Code} {H : Heap} {locs : List Loc} {lsA : Array Slot} (hX : Xt G G2) (h : P G2 r μ) (hI : gx_In (xK G M2 mc ms P) G2 M p s m args meth c H locs lsA ls μ) (ht : t.heap = H) (hW : s.WarmedH t.vm) :
    x_Q G s.heap.size P a s (.returned (r.map (am_c G2))) t := by
  refine ⟨G2, r, μ, h, hX, rfl, ?_, hI.2.2.2.1, ?_, hI.2.2.2.2.1.F ht⟩
  · rw [ht, ← hX.1]; exact hI.2.2.1
  · have h1 := va_K.moved hW.alike hI.2.1
    unfold am_tys at h1 ⊢
    rw [hX.1, hX.2.1] at h1
    exact h1
theorem x_aret {G2 : AG} {z : Int} {rt : FieldType} (hd : decode M.2.1 pc = .ok (.areturn, 1)) (hr : M.2.2.2.1 = some rt) (hrt : (∃ n, rt = .object n) ∨ ∃ t, rt = .array t) (hm : cs ≤ mc ∧ ss ≤ ms) (hX : Xt G G2) (h : P G2 (some (2, z)) μ) : Gx (xK G M mc ms P) G2 M cs ss pc ls [(2, z)] μ := by
  intro p e s m args below meth c H locs lsA hI
  refine W.widen hm.1 hm.2 ?_
  refine W.aret hI.1.1 hI.1.2.1 (by rw [hI.1.2.2.2.2.2.1]; exact hr) hrt (by show am_ref G2 z = .null ∨ ∃ a, am_ref G2 z = .ref a; unfold am_ref; split; exact Or.inl rfl; exact Or.inr ⟨_, rfl⟩) (fun t ht hW => gx_end hX h hI ht hW) (fun q hq => hI.2.2.2.2.1.2.2 q hq) hd (hlocks := hI.1.2.2.2.2.2.2)
theorem x_iretX {G2 : AG} {a : Int} (hd : decode M.2.1 pc = .ok (.ireturn, 1)) (hr : M.2.2.2.1 = some .int) (hm : cs ≤ mc ∧ ss ≤ ms) (hX : Xt G G2) (h : P G2 (some (0, a)) μ) : Gx (xK G M mc ms P) G2 M cs ss pc ls [(0, a)] μ := by
  intro p e s m args below meth c H locs lsA hI
  refine W.widen hm.1 hm.2 ?_
  refine W.iret hI.1.1 hI.1.2.1 (by rw [hI.1.2.2.2.2.2.1]; exact hr) (fun t ht hW => gx_end hX h hI ht hW) (fun q hq => hI.2.2.2.2.1.2.2 q hq) hd (hlocks := hI.1.2.2.2.2.2.2)
theorem x_zretX {G2 : AG} {a : Int} (hd : decode M.2.1 pc = .ok (.ireturn, 1)) (hr : M.2.2.2.1 = some .boolean) (ha : a = 0 ∨ a = 1) (hm : cs ≤ mc ∧ ss ≤ ms) (hX : Xt G G2) (h : P G2 (some (0, a)) μ) : Gx (xK G M mc ms P) G2 M cs ss pc ls [(0, a)] μ := by
  intro p e s m args below meth c H locs lsA hI
  refine W.widen hm.1 hm.2 ?_
  refine W.zret hI.1.1 hI.1.2.1 (by rw [hI.1.2.2.2.2.2.1]; exact hr) (by rcases ha with rfl | rfl <;> rfl) (fun t ht hW => gx_end hX h hI ht hW) (fun q hq => hI.2.2.2.2.1.2.2 q hq) hd (hlocks := hI.1.2.2.2.2.2.2)
/-- new rows -/
theorem x_newaI {i : Int} {N : Nat} (hKA : gx_A K) (hR : cs + 1 ≤ K.1.cells ∧ ss + N ≤ K.1.slots) (hd : decode M.2.1 pc = .ok (.newarray .int, 2)) (hwd : Cond.arrayClass .int ∈ TW) (hi : i = (N : Int)) (hN : N ≤ 100000) (hw : wfm G μ) (hol : lsok ((gS G).length : Int) ls) (hor : lsok ((gS G).length : Int) st)
    (kk : ∀ q : Nat, Gx K (ax G (20, N) q) M (cs + 1) (ss + N) (pc + 2) ls ((2, ((gS G).length : Int)) :: st) (am_nw μ (gS G).length)) : Gx K G M cs ss pc ls ((0, i) :: st) μ := by
  subst hi
  intro p e s m args below meth c H locs lsA hI
  obtain ⟨hX, hK, hP, hD, hS, hE, hl⟩ := hI
  have hc : (Int32.ofInt (N : Int)).toInt = (N : Int) := R32.eq ⟨by omega, by omega⟩
  refine va_newa (atype := .int) (ty := .int) (N' := N) (a0 := (N, .inl fun _ => 0)) hX.1 hX.2.1 (hX.2.2.2.2.1 _ hwd) rfl hK hP hD hS (hKA s) (fun _ => rfl) (by rw [Int32.lt_iff_toInt_lt, hc]; show ¬ (N : Int) < 0; omega) (by show (Int32.ofInt (N : Int)).toInt.toNat = N; rw [hc]; omega) (by show N * 4 ≤ 536870912; omega) hR.1 hR.2 hd (fun q cx H1 hK1 hP1 hD1 hS1 => ?_)
  have e1 : cx = gC G 0 := Option.some.inj ((va_nm_int (hK1.2 4 (cx, .int) rfl).2).symm.trans (va_nm_int (hK.2 0 (gC G 0, .int) rfl).2))
  subst e1
  have e2 : am_pic (ax G (20, N) q) (am_nw μ (gS G).length) = am_pic G μ ++ [(q, .inl (gC G 0, N, .inl fun _ => 0))] := by
    rw [am_pic_ax hw (fun o ho k => congrFun (am_nw_o (by omega)) k), am_el_row (t := 0) ax_sh (by decide)]
    have ef : (fun j : Nat => Int32.ofInt (am_nw μ (gS G).length ((gS G).length : Int) (j : Int))) = fun _ => 0 := by
      funext j
      rw [am_nw_at]
      rfl
    show am_pic G μ ++ [(q, .inl (gC G 0, N, .inl (fun j : Nat => Int32.ofInt (am_nw μ (gS G).length ((gS G).length : Int) (j : Int)))))] = _
    rw [ef]
  rw [← e2] at hP1 hD1
  have h9 := kk q p e s m args below meth c H1 locs lsA ⟨hX, hK, hP1, hD1, hS1, hE, by rw [am_l_xt (Xt.ax G (20, N) q) ls 0 hol]; exact hl⟩
  rw [List.map_cons, am_map_xt (Xt.ax G (20, N) q) hor, am_ref_pos (by omega), show ((gS G).length : Int).toNat = (gS G).length by omega, ax_Aq] at h9
  exact h9
theorem x_newaL {i : Int} {N : Nat} (hKA : gx_A K) (hR : cs + 1 ≤ K.1.cells ∧ ss + N ≤ K.1.slots) (hd : decode M.2.1 pc = .ok (.newarray .long, 2)) (hwd : Cond.arrayClass .long ∈ TW) (hi : i = (N : Int)) (hN : N ≤ 100000) (hw : wfm G μ) (hol : lsok ((gS G).length : Int) ls) (hor : lsok ((gS G).length : Int) st)
    (kk : ∀ q : Nat, Gx K (ax G (23, N) q) M (cs + 1) (ss + N) (pc + 2) ls ((2, ((gS G).length : Int)) :: st) (am_nw μ (gS G).length)) : Gx K G M cs ss pc ls ((0, i) :: st) μ := by
  subst hi
  intro p e s m args below meth c H locs lsA hI
  obtain ⟨hX, hK, hP, hD, hS, hE, hl⟩ := hI
  have hc : (Int32.ofInt (N : Int)).toInt = (N : Int) := R32.eq ⟨by omega, by omega⟩
  refine va_newa (atype := .long) (ty := .long) (N' := N) (a0 := (N, .inr (.inl fun _ => 0))) hX.1 hX.2.1 (hX.2.2.2.2.1 _ hwd) rfl hK hP hD hS (hKA s) (fun _ => rfl) (by rw [Int32.lt_iff_toInt_lt, hc]; show ¬ (N : Int) < 0; omega) (by show (Int32.ofInt (N : Int)).toInt.toNat = N; rw [hc]; omega) (by show N * 8 ≤ 536870912; omega) hR.1 hR.2 hd (fun q cx H1 hK1 hP1 hD1 hS1 => ?_)
  have e1 : cx = gC G 3 := Option.some.inj ((va_nm_long (hK1.2 4 (cx, .long) rfl).2).symm.trans (va_nm_long (hK.2 3 (gC G 3, .long) rfl).2))
  subst e1
  have e2 : am_pic (ax G (23, N) q) (am_nw μ (gS G).length) = am_pic G μ ++ [(q, .inl (gC G 3, N, .inr (.inl fun _ => 0)))] := by
    rw [am_pic_ax hw (fun o ho k => congrFun (am_nw_o (by omega)) k), am_el_rowL ax_sh]
    have ef : (fun j : Nat => Int64.ofInt (am_nw μ (gS G).length ((gS G).length : Int) (j : Int))) = fun _ => 0 := by
      funext j
      rw [am_nw_at]
      rfl
    show am_pic G μ ++ [(q, .inl (gC G 3, N, .inr (.inl (fun j : Nat => Int64.ofInt (am_nw μ (gS G).length ((gS G).length : Int) (j : Int))))))] = _
    rw [ef]
  rw [← e2] at hP1 hD1
  have h9 := kk q p e s m args below meth c H1 locs lsA ⟨hX, hK, hP1, hD1, hS1, hE, by rw [am_l_xt (Xt.ax G (23, N) q) ls 0 hol]; exact hl⟩
  rw [List.map_cons, am_map_xt (Xt.ax G (23, N) q) hor, am_ref_pos (by omega), show ((gS G).length : Int).toNat = (gS G).length by omega, ax_Aq] at h9
  exact h9
/-- the world written anew: objects left out, others at another number -/
theorem Gx.re {G2 : AG} {ls2 st2 : List AV} {μ2 : Mu} (f : Nat → Nat) (hg : gD G2 = gD G ∧ gC G2 = gC G ∧ gL G2 = gL G ∧ gK G2 = gK G ∧ gX G2 = gX G)
    (hf : ∀ o, o < (gS G2).length → f o < (gS G).length ∧ gA G2 o = gA G (f o) ∧ am_el G2 μ2 o = am_el G μ (f o)) (hinj : ∀ o o2, o < (gS G2).length → o2 < (gS G2).length → f o = f o2 → o = o2)
    (hl : ∀ q ∈ am_l G2 0 ls2, q ∈ am_l G 0 ls) (hs : st2.map (am_c G2) = st.map (am_c G)) (kk : Gx K G2 M cs ss pc ls2 st2 μ2) : Gx K G M cs ss pc ls st μ := by
  intro p e s m args below meth c H locs lsA hI
  obtain ⟨hX, hK, hP, hD, hS, hE, hl0⟩ := hI
  have hget : ∀ (k : Nat) (q : Nat × va_E), (am_pic G2 μ2)[k]? = some q → k < (gS G2).length ∧ (am_pic G μ)[f k]? = some q := by
    intro k q hk
    have hlt := (List.getElem?_eq_some_iff.mp hk).1
    rw [am_pic_len] at hlt
    rw [am_pic_get hlt] at hk
    cases hk
    obtain ⟨h1, h2, h3⟩ := hf k hlt
    exact ⟨hlt, by rw [am_pic_get h1, h2, h3]⟩
  have h9 := kk p e s m args below meth c H locs lsA ⟨hX, by unfold am_tys; rw [hg.1, hg.2.1]; exact hK, fun k q hk => by rw [hg.1]; exact hP (f k) q (hget k q hk).2,
    ⟨fun i j x y hx hy hxy => hinj i j (hget i x hx).1 (hget j y hy).1 (hD.1 (f i) (f j) x y (hget i x hx).2 (hget j y hy).2 hxy), fun k q hk => hD.2 (f k) q (hget k q hk).2⟩, hS, ⟨by
      have h1 := hE.1
      unfold am_E0 am_Sc at h1 ⊢
      rw [hg.2.2.2.1, hg.2.2.2.2]
      exact h1, by
      intro i q hq
      rw [hg.2.2.2.1]
      exact hE.2.1 i q hq, hE.2.2⟩, lv_mono hl0 hl⟩
  rw [hs] at h9
  unfold gx_W at h9 ⊢
  rw [← hg.2.2.1]
  exact h9
/-- the last object is left out -/
theorem Gx.drop {x : Nat × Nat} {q : Nat} (hw : wfm G μ) (hol : lsok ((gS G).length : Int) ls) (hor : lsok ((gS G).length : Int) st) (kk : Gx K G M cs ss pc ls st μ) : Gx K (ax G x q) M cs ss pc ls st μ := by
  refine Gx.re (G2 := G) (μ2 := μ) id ⟨rfl, rfl, rfl, rfl, rfl⟩ (fun o ho => ⟨by rw [ax_len]; exact Nat.lt_succ_of_lt ho, (ax_A ho).symm, (am_el_xt (Xt.ax G x q) hw ho (fun _ => rfl)).symm⟩) (fun _ _ _ _ h => h) (fun p hp => ?_) (am_map_xt (Xt.ax G x q) hor).symm kk
  rw [am_l_xt (Xt.ax G x q) ls 0 hol]
  exact hp
/-- locals that hold the same -/
def lrel (G2 G : AG) : List AV → List AV → Prop
  | [], [] => True
  | v2 :: t2, v :: t => (v2.1 < 9 → v.1 < 9 ∧ am_c G2 v2 = am_c G v) ∧ lrel G2 G t2 t
  | _, _ => False
theorem am_l_rel {G2 G : AG} : ∀ (l2 l : List AV) (j : Nat), lrel G2 G l2 l → ∀ q ∈ am_l G2 j l2, q ∈ am_l G j l := by
  intro l2
  induction l2 with
  | nil => intro l j h q hq; simp [am_l] at hq
  | cons v2 t2 ih =>
    intro l j h q hq
    match l, h with
    | v :: t, h =>
      unfold am_l at hq ⊢
      by_cases h9 : v2.1 < 9
      · obtain ⟨h1, h2⟩ := h.1 h9
        rw [if_pos h9] at hq
        rw [if_pos h1]
        rcases List.mem_cons.mp hq with q1 | q1
        · rw [q1, h2]; exact List.mem_cons_self
        · exact List.mem_cons_of_mem _ (ih t (j + 1) h.2 q q1)
      · rw [if_neg h9] at hq
        have h3 := ih t (j + 1) h.2 q hq
        split
        · exact List.mem_cons_of_mem _ h3
        · exact h3
/-- the row behind comes to the place of the last but one -/
def am_mv (μ : Mu) (n : Nat) : Mu := fun a b => if a = (n : Int) then μ ((n : Int) + 1) b else μ a b
theorem am_mv_o {n : Nat} {o : Int} (h : o ≠ (n : Int)) : am_mv μ n o = μ o := by funext b; simp [am_mv, h]
theorem am_mv_at {n : Nat} : am_mv μ n (n : Int) = μ ((n : Int) + 1) := by funext b; simp [am_mv]
theorem take_c1 {B : AG} {x : Nat × Nat} {q1 q2 n : Nat} {v : AV} (hn : (gS B).length = n) (hv : v.1 = 2 → v.2 < (n : Int)) : am_c (ax B x q2) v = am_c (ax (ax B x q1) x q2) v := by
  subst hn
  exact (am_c_xt (Xt.ax B x q2) hv).trans (am_c_xt ((Xt.ax B x q1).tr (Xt.ax _ x q2)) hv).symm
theorem take_c2 {B : AG} {x : Nat × Nat} {q1 q2 n : Nat} {a b : Int} (hn : (gS B).length = n) (ha : a = (n : Int)) (hb : b = (n : Int) + 1) : am_c (ax B x q2) (2, a) = am_c (ax (ax B x q1) x q2) (2, b) := by
  subst hn; subst ha; subst hb
  rw [am_ref_pos (by omega), am_ref_pos (by omega), show ((gS B).length : Int).toNat = (gS B).length by omega, show (((gS B).length : Int) + 1).toNat = (gS (ax B x q1)).length by rw [ax_len]; omega, ax_Aq, ax_Aq]
theorem Gx.take {B : AG} {x : Nat × Nat} {q1 q2 n : Nat} {ls2 : List AV} (hw : wfm B μ) (hn : (gS B).length = n) (hx : 20 ≤ x.1) (hl : lrel (ax B x q2) (ax (ax B x q1) x q2) ls2 ls) (kk : Gx K (ax B x q2) M cs ss pc ls2 [] (am_mv μ n)) : Gx K (ax (ax B x q1) x q2) M cs ss pc ls [] μ := by
  subst hn
  refine Gx.re (G2 := ax B x q2) (μ2 := am_mv μ (gS B).length) (ls2 := ls2) (st2 := []) (fun o => if o = (gS B).length then o + 1 else o) ⟨rfl, rfl, rfl, rfl, rfl⟩ (fun o ho => ?_) (fun o o2 h1 h2 h => ?_) (am_l_rel ls2 ls 0 hl) rfl kk
  · rw [ax_len] at ho
    by_cases he : o = (gS B).length
    · subst he
      rw [if_pos rfl]
      refine ⟨by rw [ax_len, ax_len]; omega, ?_, ?_⟩
      · rw [ax_Aq]
        have h9 := @ax_Aq (ax B x q1) x q2
        rw [ax_len] at h9
        exact h9.symm
      · have s1 := @ax_sh B x q2
        have s2 := @ax_sh (ax B x q1) x q2
        rw [ax_len] at s2
        obtain ⟨kd, sz⟩ := x
        unfold am_el
        rw [am_sh_d s1, am_sh_d s2]
        have hk : ¬ kd < 20 := by simp only at hx; omega
        simp only [hk, if_false]
        rw [show (((gS B).length + 1 : Nat) : Int) = ((gS B).length : Int) + 1 by omega]
        simp only [am_mv_at]
        rfl
    · rw [if_neg he]
      have ho2 : o < (gS B).length := by omega
      refine ⟨by rw [ax_len, ax_len]; omega, ?_, ?_⟩
      · rw [ax_A ho2, ax_A (by rw [ax_len]; omega), ax_A ho2]
      · rw [am_el_xt (Xt.ax B x q2) hw ho2 (fun k => congrFun (am_mv_o (by omega)) k), am_el_xt ((Xt.ax B x q1).tr (Xt.ax _ x q2)) hw ho2 (fun _ => rfl)]
  · rw [ax_len] at h1 h2
    split at h <;> split at h <;> omega
end gxc
